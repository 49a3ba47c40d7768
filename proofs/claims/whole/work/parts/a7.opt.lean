/-! till and stop -/
theorem sm_pl {f g : Int → Int} : ∀ (n : Nat) (k : Int), sm (fun j => f j + g j) k n = sm f k n + sm g k n
  | 0, _ => rfl
  | n + 1, k => by
    show f k + g k + sm (fun j => f j + g j) (k + 1) n = f k + sm f (k + 1) n + (g k + sm g (k + 1) n)
    rw [sm_pl n (k + 1)]
    omega
theorem sm_le {f g : Int → Int} : ∀ (n : Nat) (k : Int), (∀ j, k ≤ j → j < k + n → f j ≤ g j) → sm f k n ≤ sm g k n
  | 0, _, _ => Int.le_refl _
  | n + 1, k, h => by
    show f k + sm f (k + 1) n ≤ g k + sm g (k + 1) n
    have h1 := h k (Int.le_refl _) (by omega)
    have h2 := sm_le (f := f) (g := g) n (k + 1) (fun j a b => h j (by omega) (by omega))
    omega
theorem sm_mul {f : Int → Int} {c : Int} : ∀ (n : Nat) (k : Int), sm (fun j => c * f j) k n = c * sm f k n
  | 0, _ => by show (0 : Int) = c * 0; rw [Int.mul_zero]
  | n + 1, k => by
    show c * f k + sm (fun j => c * f j) (k + 1) n = c * (f k + sm f (k + 1) n)
    rw [sm_mul n (k + 1), Int.mul_add]
theorem sm_cnt {g : Int → Int} (N : Nat) : ∀ (n : Nat) (k : Int), sm (fun b => cnt (fun y => decide (g y = b)) k n) 0 N ≤ n
  | 0, k => by
    have : sm (fun b => cnt (fun y => decide (g y = b)) k 0) 0 N = 0 := sm_0 _ _ (fun _ _ _ => rfl)
    omega
  | n + 1, k => by
    have e : (fun b => cnt (fun y => decide (g y = b)) k (n + 1)) = (fun b => (if b = g k then (1 : Int) else 0) + cnt (fun y => decide (g y = b)) (k + 1) n) := by
      funext b
      show cond (decide (g k = b)) 1 0 + cnt (fun y => decide (g y = b)) (k + 1) n = _
      by_cases c : g k = b
      · rw [decide_eq_true c, if_pos c.symm]; rfl
      · rw [decide_eq_false c, if_neg (fun z => c z.symm)]; rfl
    rw [e, sm_pl]
    have h1 := sm_one (g := fun _ => (1 : Int)) (b := g k) N 0
    have h2 := sm_cnt (g := g) N n (k + 1)
    have h3 : sm (fun j => if j = g k then (1 : Int) else 0) 0 N ≤ 1 := by
      rw [h1]
      split <;> omega
    omega
theorem sm_sm {f : Int → Int → Int} (N : Nat) {c : Int} : ∀ (n : Nat) (k : Int), (∀ x, sm (fun b => f b x) 0 N ≤ c) → sm (fun b => sm (fun x => f b x) k n) 0 N ≤ n * c
  | 0, k, _ => by
    have : sm (fun b => sm (fun x => f b x) k 0) 0 N = 0 := sm_0 _ _ (fun _ _ _ => rfl)
    rw [this]; simp
  | n + 1, k, h => by
    have e : (fun b => sm (fun x => f b x) k (n + 1)) = (fun b => f b k + sm (fun x => f b x) (k + 1) n) := rfl
    rw [e, sm_pl]
    have h1 := h k
    have h2 := sm_sm (f := f) N n (k + 1) h
    have e2 : ((n + 1 : Nat) : Int) * c = n * c + c := by rw [Int.natCast_add, Int.add_mul]; simp
    rw [e2]
    omega
theorem wyF_sum {m : Int → Int} {h b X Y p : Int} (hp : 0 ≤ p) (N : Nat) : sm (fun j => wyF m h b X Y p j) 0 N ≤ (2 * p + 1) * (2 * p + 1) := by
  have := sm_sm (f := fun j x => cnt (fun y => decide (cnF m h x y b = j)) (Y - p) (2 * p + 1).toNat) N (c := (2 * p + 1).toNat) (2 * p + 1).toNat (X - p) (fun x => sm_cnt (g := fun y => cnF m h x y b) N _ _)
  have e : ((2 * p + 1).toNat : Int) = 2 * p + 1 := by omega
  rw [e] at this
  exact this
theorem woF_99 {m W : Int → Int} {A : Int} (hB : BD m) (hA : 1 ≤ A) (k8 : ∀ j, 0 ≤ W j ∧ W j ≤ 81) (hs : sm W 0 (m 3).toNat ≤ A) : 0 ≤ woF m W A ∧ woF m W A ≤ 99900 := by
  have hB3 := hB.1
  have bb : ∀ j, 0 ≤ j → j < m 3 → 0 ≤ bl m j 3 ∧ bl m j 3 ≤ 999 := fun j x y => (hB.2.2.2.2.2.2.2.2.2.1 j x y).2.2.2.1
  have b1 := woF_b hB hA k8
  refine ⟨b1.1, ?_⟩
  have h2 : sm (fun b => bl m b 3 * W b) 0 (m 3).toNat ≤ sm (fun b => 999 * W b) 0 (m 3).toNat := sm_le _ _ (fun j a b => by
    have h1 := bb j a (by omega)
    have h2 := k8 j
    exact Int.mul_le_mul_of_nonneg_right h1.2 h2.1)
  rw [sm_mul] at h2
  unfold woF
  obtain ⟨s, hs'⟩ : ∃ s, s = sm (fun b => bl m b 3 * W b) 0 (m 3).toNat := ⟨_, rfl⟩
  rw [← hs'] at h2 ⊢
  have h3 : s * 100 ≤ 99900 * A := by omega
  have h4 : s * 100 / A ≤ 99900 * A / A := Int.ediv_le_ediv (by omega) h3
  rw [Int.mul_ediv_cancel _ (by omega)] at h4
  exact h4
theorem gW_sum {m : Int → Int} {ss : List Int} {ln p h f sk th we hi pa : Int} (hb : ∀ k, 0 ≤ syA ss ln p h f hi pa sk th we k) (hs : 0 ≤ sk ∧ sk ≤ 99) (N : Nat) : sm (gW m ss ln p h f sk th we hi pa) 0 N ≤ gA ss ln p h f sk th we hi pa := wyF_sum (aS_b (hb 4) hs).1 N
/-- the n-th throw behind another: its facts -/
def wyN (m : Int → Int) (ss : List Int) (ln p h f hi pa n : Int) : Int → Int := gW m ss ln p h f (min 99 (pe m p 0 + (n - 1))) (pe m p 1 + (n - 1)) (ho m h 2) hi pa
def alN (m : Int → Int) (ss : List Int) (ln p h f hi pa n : Int) : Int := gA ss ln p h f (min 99 (pe m p 0 + (n - 1))) (pe m p 1 + (n - 1)) (ho m h 2) hi pa
def tilF (o : Int → Int) : Nat → Int → Int → Int
  | 0, _, _ => -1
  | k + 1, n, s => if 10000 ≤ s + o n then n else tilF o k (n + 1) (s + o n)
def stpF (wo : Int → Int) (pr : Int) : Nat → Int → Int → Int × Int → Int × Int
  | 0, _, _, t => t
  | k + 1, n, s, t => stpF wo pr k (n + 1) (s + wo n) (if t.1 < s + wo n - 100 * pr * ((n + 2) / 3) then (s + wo n - 100 * pr * ((n + 2) / 3), n) else t)
def vTill (m : Int → Int) (ss : List Int) (ln p h f hi pa b : Int) : Int := tilF (fun n => odF (wyN m ss ln p h f hi pa n) (alN m ss ln p h f hi pa n) b) 200 1 0
def tStop (m : Int → Int) (ss : List Int) (ln p h f hi pa : Int) : Int × Int := stpF (fun n => woF m (wyN m ss ln p h f hi pa n) (alN m ss ln p h f hi pa n)) (m 6) 60 1 0 (0, 0)
def vStop (m : Int → Int) (ss : List Int) (ln p h f hi pa mu : Int) : Int := if mu = 0 then (tStop m ss ln p h f hi pa).2 else (tStop m ss ln p h f hi pa).1
def cTill (m : Int → Int) (p h f hi pa b : Int) : Int := if vPH m p h ∧ 0 ≤ b ∧ b < m 3 then (if vTH f hi pa then 0 else 2) else 1
section OPT
variable {vn vc vw : Nat} {K L : Nat → Nat} {R : Nat → Nat → Nat} {I : Nat → Nat → Int32} {J : Nat → Nat → Int64}
/-- what stands between two throws -/
def GrI (K L : Nat → Nat) (R : Nat → Nat → Nat) (I : Nat → Nat → Int32) (m : Int → Int) (ss : List Int) (ln mk p h f hi pa n : Int) : Prop := CQ K L R I m ss ln mk ∧ OddsM I mk m ∧ Amd K L R I ss ln p h f hi pa (min 99 (pe m p 0 + (n - 1))) (pe m p 1 + (n - 1)) (ho m h 2)
theorem gr_3 {d : Nat} {m : Int → Int} {ss : List Int} {ln mk p h f hi pa n : Int} (hG : GrI K L R I m ss ln mk p h f hi pa n) (hpe : 0 ≤ pe m p 0 ∧ pe m p 0 ≤ 99) (hn : 1 ≤ n ∧ n ≤ 1000) : ∃ I', ev PR (d + 5) 3 [.ref 273] (((vn, vc, vw, K, L, R), I, J) : HS) = some (.inl none, (((vn, vc, vw, K, L, R), I', J) : HS)) ∧ GrI K L R I' m ss ln mk p h f hi pa (n + 1) ∧ FX I I' := by
  obtain ⟨hQ, hO, hA⟩ := hG
  obtain ⟨I', x1, x2, x3⟩ := sp_3 (d := d) (vn := vn) (vc := vc) (vw := vw) (J := J) hQ.1 hA (by omega)
  have f1 : FX I I' := fun a k x y z => x3 a k (by omega)
  have e1 : min 99 (min 99 (pe m p 0 + (n - 1)) + 1) = min 99 (pe m p 0 + (n + 1 - 1)) := by omega
  have e2 : pe m p 1 + (n - 1) + 1 = pe m p 1 + (n + 1 - 1) := by omega
  rw [e1, e2] at x2
  have O' : OddsM I' mk m := OddsM_f hO (fun a k x => x3 a k (by omega))
  exact ⟨I', x1, ⟨CQ_f f1 RA_rf ⟨_, _, x2.1⟩ O'.1 hQ, O', x2⟩, f1⟩
theorem gr_51 {d : Nat} {m : Int → Int} {ss : List Int} {ln mk p h f hi pa n : Int} (hG : GrI K L R I m ss ln mk p h f hi pa n) (hpe : 0 ≤ pe m p 0 ∧ pe m p 0 ≤ 99) (hn : 1 ≤ n ∧ n ≤ 1000) (hh : 0 ≤ h ∧ h < m 4) (hf : (0 ≤ f ∧ f ≤ 59) ∧ 0 ≤ pa ∧ pa ≤ 11) (hmk : mk < 100000000) : ∃ I' mk' v, ev PR (d + 6) 51 [.ref 277, .ref 91, .ref 273] (((vn, vc, vw, K, L, R), I, J) : HS) = some (.inl (some (.int v)), (((vn, vc, vw, K, L, R), I', J) : HS)) ∧ TR I' (wyN m ss ln p h f hi pa n) (alN m ss ln p h f hi pa n) ∧ GrI K L R I' m ss ln mk' p h f hi pa n ∧ (mk ≤ mk' ∧ mk' ≤ mk + 1) ∧ FX I I' ∧ sm (wyN m ss ln p h f hi pa n) 0 (m 3).toNat ≤ alN m ss ln p h f hi pa n := by
  obtain ⟨hQ, hO, hA⟩ := hG
  obtain ⟨I', mk', v, y1, y2, y3, y4, y5, y6, y7⟩ := xt_51 (d := d) (vn := vn) (vc := vc) (vw := vw) (J := J) hQ hA hO (by omega) hh hf hmk
  exact ⟨I', mk', v, y1, y2, ⟨y3, y4, y7⟩, y5, y6, gW_sum (fun k => (syA_b hA k).1) (by omega) _⟩
theorem w_363 {d : Nat} {m : Int → Int} {ss : List Int} {ln mk p h f hi pa b : Int} (gJ : K 304 = 21 ∧ L 304 = 1) (hQ : CQ K L R I m ss ln mk) (hmk : mk + 6000 < 100000000) (hr : (-2147483648 ≤ p ∧ p < 2147483648) ∧ (-2147483648 ≤ h ∧ h < 2147483648) ∧ (-2147483648 ≤ f ∧ f < 2147483648) ∧ (-2147483648 ≤ hi ∧ hi < 2147483648) ∧ (-2147483648 ≤ pa ∧ pa < 2147483648) ∧ (-2147483648 ≤ b ∧ b < 2147483648)) :
    XW vn vc vw K L R I J m ss ln mk (ev PR (d + 10) 363 [.ref 79, .int (w p), .int (w h), .int (w f), .int (w hi), .int (w pa), .int (w b), .ref 304] (((vn, vc, vw, K, L, R), I, J) : HS)) (cTill m p h f hi pa b) (w (vTill m ss ln p h f hi pa b)) := by
  obtain ⟨hX, g2, g3, g4, g5, g6, g7, g8⟩ := id hQ
  obtain ⟨k1, k2⟩ := gJ
  have hB3 := g5.1
  have hB4 := g5.2.1
  have hB5 := g5.2.2.1
  have hS := g2
  by_cases c1 : vPH m p h
  · by_cases c0 : 0 ≤ b ∧ b < m 3
    · by_cases c2 : vTH f hi pa
      · unfold vPH at c1
        unfold vTH at c2
        have hpp := g5.2.2.2.2.2.2.2.2.2.2.2 p c1.1.1 c1.1.2
        obtain ⟨I1, R1, x1, x2, x3, x4, x5, x6⟩ := x_206 (d := d + 2) (p := p) (h := h) (f := f) (hi := hi) (pa := pa) (vn := vn) (vc := vc) (vw := vw) (J := J) hQ c1.1 c1.2 (by omega)
        have G1 : GrI K L R1 I1 m ss ln (mk + 1) p h f hi pa 1 := by
          refine ⟨x4, x3, ?_⟩
          have e1 : min 99 (pe m p 0 + (1 - 1)) = pe m p 0 := by omega
          have e2 : pe m p 1 + (1 - 1) = pe m p 1 := by omega
          rw [e1, e2]
          exact x2
        have lp : ∀ (k : Nat) (n s : Int) (I : Nat → Nat → Int32) (mk : Int), 1 ≤ n → n + k = 201 → GrI K L R1 I m ss ln mk p h f hi pa n → 0 ≤ s ∧ s < 10000 → mk + k + 200 < 100000000 → ∃ I' mk', atv PR (d + 7) cd_80 4 [.ref 283, .ref 91, .int (w b), .int (w s), .int (w n)] [] (((vn, vc, vw, K, L, R1), I, J) : HS) = some (.inl (some (.int (w (tilF (fun n => odF (wyN m ss ln p h f hi pa n) (alN m ss ln p h f hi pa n) b) k n s)))), (((vn, vc, vw, K, L, R1), I', J) : HS)) ∧ CQ K L R1 I' m ss ln mk' ∧ (mk ≤ mk' ∧ mk' ≤ mk + k) ∧ FX I I' := by
          intro k
          induction k with
          | zero =>
            intro n s I mk hn hk hG hs hm
            have en : n = 201 := by omega
            subst en
            refine ⟨I, mk, ?_, hG.1, by omega, FX_rf⟩
            rw [eq_80_4]
            simp (disch := first | assumption | omega | (simp (disch := omega) only [vM_u, vS_u]; first | assumption | omega)) only [hK, hL, hR, hI, hN, sI, hSp, hC, hW, li, lr, ↓cnd_a, ↓cnd_o, ↓cnd_n, ↓cnd_d, ↓z0, ↓z1, ↓z2, y0n, y1i, y2r, y0e, y1e, y2e, wl_0, wl_1, wl_2, wl_3, wl_4, wl_5, wl_6, wl_7, wl_8, wl_9, wl_10, wl_11, wl_12, wl_13, wl_14, wl_15, wl_16, wl_17, wl_18, wl_19, wl_20, wl_21, wl_22, wl_23, wl_24, wl_25, wl_26, wl_27, wl_28, wl_29, wl_30, wl_31, wl_32, wl_33, wl_34, wl_35, wl_36, wl_37, wl_38, wl_39, wl_40, wl_41, wl_42, wl_43, wl_44, wl_45, wl_46, wl_47, wl_48, wl_49, wl_50, wl_51, wl_52, wl_53, wl_54, wl_55, wl_56, wl_57, wl_58, wl_59, wl_60, wl_61, wl_62, wl_63, wl_64, wl_65, wl_66, wl_67, wl_68, wl_69, wl_70, wl_71, wl_72, wl_73, wl_74, wl_75, wl_76, wl_77, wl_78, wl_79, wl_80, wl_81, wl_82, wl_83, wl_84, wl_85, wl_86, wl_87, wl_88, wl_89, wl_90, wl_91, wl_92, wl_93, wl_94, wl_95, wl_96, wl_97, wl_98, wl_99, wl_100, wl_101, wl_102, wl_103, wl_104, wl_105, wl_106, wl_107, wl_108, wl_109, wl_110, wl_111, wl_112, wl_113, wl_114, wl_115, wl_116, wl_117, wl_118, wl_119, wl_120, wl_121, wl_122, wl_123, wl_124, wl_125, wl_126, wl_127, wl_128, wl_129, wl_130, wl_159, wl_160, wl_200, wl_232, wl_255, wl_256, wl_300, wl_359, wl_360, wl_400, wl_592, wl_992, wl_999, wl_1000, wl_1024, wl_3456, wl_6512, wl_7104, wl_10000, wl_11264, wl_12345, wl_32767, wl_1000000000, wl_1103515245, wl_2000000000, w_add, w_sub, w_mul, w_neg, w_lt, w_le, w_eq, w_cl, w_in, w_nat, w_max2, w_min2, w_abs2, iltT, iltF, ileT, ileF, ieqT, ieqF, bv_01, bft, bv_0, bv_1, bv_t, bv_f, cond_true, cond_false, Bool.not_true, Bool.not_false, if_true, if_false, true_or, or_true, true_and, and_true, ↓reduceIte, decide_true, decide_false, reduceCtorEq, u2_s, u2_o, u2_k, u2_u2, Bool.true_or, Bool.or_true, Bool.false_or, Bool.or_false, Bool.and_true, Bool.true_and, Bool.and_false, Bool.false_and, eq_self, not_true_eq_false, not_false_eq_true, and_self, and_true, true_and, false_and, and_false, w_dv, dvm]
            rfl
          | succ k ih =>
            intro n s I mk hn hk hG hs hm
            have hX := hG.1.1
            obtain ⟨I2, mk2, v, y1, y2, y3, y4, y5, _⟩ := gr_51 (d := d + 1) (vn := vn) (vc := vc) (vw := vw) (J := J) hG hpp (by omega) c1.2 (by omega) (by omega)
            have z := sp_55 (d := d + 5) (j := b) (vn := vn) (vc := vc) (vw := vw) (J := J) hX y2 (by omega)
            have zb := odF_b (wy := wyN m ss ln p h f hi pa n) (al := alN m ss ln p h f hi pa n) (j := b) y2.2.2.1.1 (y2.2.2.2 b)
            obtain ⟨o, ho⟩ : ∃ o, o = odF (wyN m ss ln p h f hi pa n) (alN m ss ln p h f hi pa n) b := ⟨_, rfl⟩
            have et : tilF (fun n => odF (wyN m ss ln p h f hi pa n) (alN m ss ln p h f hi pa n) b) (k + 1) n s = if 10000 ≤ s + o then n else tilF (fun n => odF (wyN m ss ln p h f hi pa n) (alN m ss ln p h f hi pa n) b) k (n + 1) (s + o) := by rw [ho]; rfl
            rw [et]
            rw [← ho] at z zb
            by_cases c3 : 10000 ≤ s + o
            · rw [if_pos c3]
              refine ⟨I2, mk2, ?_, y3.1, by omega, y5⟩
              rw [eq_80_4]
              simp (disch := first | assumption | omega | (simp (disch := omega) only [vM_u, vS_u]; first | assumption | omega)) only [hK, hL, hR, hI, hN, sI, hSp, hC, hW, li, lr, ↓cnd_a, ↓cnd_o, ↓cnd_n, ↓cnd_d, ↓z0, ↓z1, ↓z2, y0n, y1i, y2r, y0e, y1e, y2e, wl_0, wl_1, wl_2, wl_3, wl_4, wl_5, wl_6, wl_7, wl_8, wl_9, wl_10, wl_11, wl_12, wl_13, wl_14, wl_15, wl_16, wl_17, wl_18, wl_19, wl_20, wl_21, wl_22, wl_23, wl_24, wl_25, wl_26, wl_27, wl_28, wl_29, wl_30, wl_31, wl_32, wl_33, wl_34, wl_35, wl_36, wl_37, wl_38, wl_39, wl_40, wl_41, wl_42, wl_43, wl_44, wl_45, wl_46, wl_47, wl_48, wl_49, wl_50, wl_51, wl_52, wl_53, wl_54, wl_55, wl_56, wl_57, wl_58, wl_59, wl_60, wl_61, wl_62, wl_63, wl_64, wl_65, wl_66, wl_67, wl_68, wl_69, wl_70, wl_71, wl_72, wl_73, wl_74, wl_75, wl_76, wl_77, wl_78, wl_79, wl_80, wl_81, wl_82, wl_83, wl_84, wl_85, wl_86, wl_87, wl_88, wl_89, wl_90, wl_91, wl_92, wl_93, wl_94, wl_95, wl_96, wl_97, wl_98, wl_99, wl_100, wl_101, wl_102, wl_103, wl_104, wl_105, wl_106, wl_107, wl_108, wl_109, wl_110, wl_111, wl_112, wl_113, wl_114, wl_115, wl_116, wl_117, wl_118, wl_119, wl_120, wl_121, wl_122, wl_123, wl_124, wl_125, wl_126, wl_127, wl_128, wl_129, wl_130, wl_159, wl_160, wl_200, wl_232, wl_255, wl_256, wl_300, wl_359, wl_360, wl_400, wl_592, wl_992, wl_999, wl_1000, wl_1024, wl_3456, wl_6512, wl_7104, wl_10000, wl_11264, wl_12345, wl_32767, wl_1000000000, wl_1103515245, wl_2000000000, w_add, w_sub, w_mul, w_neg, w_lt, w_le, w_eq, w_cl, w_in, w_nat, w_max2, w_min2, w_abs2, iltT, iltF, ileT, ileF, ieqT, ieqF, bv_01, bft, bv_0, bv_1, bv_t, bv_f, cond_true, cond_false, Bool.not_true, Bool.not_false, if_true, if_false, true_or, or_true, true_and, and_true, ↓reduceIte, decide_true, decide_false, reduceCtorEq, u2_s, u2_o, u2_k, u2_u2, Bool.true_or, Bool.or_true, Bool.false_or, Bool.or_false, Bool.and_true, Bool.true_and, Bool.and_false, Bool.false_and, eq_self, not_true_eq_false, not_false_eq_true, and_self, and_true, true_and, false_and, and_false, w_dv, dvm, XSH_e hX, y1, z]
            · rw [if_neg c3]
              obtain ⟨I3, u1, u2', u3⟩ := gr_3 (d := d + 2) (vn := vn) (vc := vc) (vw := vw) (J := J) y3 hpp (by omega)
              obtain ⟨I', mk', l1, l2, l3, l4⟩ := ih (n + 1) (s + o) I3 mk2 (by omega) (by omega) u2' (by omega) (by omega)
              refine ⟨I', mk', ?_, l2, by omega, FX_tr y5 (FX_tr u3 l4)⟩
              rw [eq_80_4]
              simp (disch := first | assumption | omega | (simp (disch := omega) only [vM_u, vS_u]; first | assumption | omega)) only [hK, hL, hR, hI, hN, sI, hSp, hC, hW, li, lr, ↓cnd_a, ↓cnd_o, ↓cnd_n, ↓cnd_d, ↓z0, ↓z1, ↓z2, y0n, y1i, y2r, y0e, y1e, y2e, wl_0, wl_1, wl_2, wl_3, wl_4, wl_5, wl_6, wl_7, wl_8, wl_9, wl_10, wl_11, wl_12, wl_13, wl_14, wl_15, wl_16, wl_17, wl_18, wl_19, wl_20, wl_21, wl_22, wl_23, wl_24, wl_25, wl_26, wl_27, wl_28, wl_29, wl_30, wl_31, wl_32, wl_33, wl_34, wl_35, wl_36, wl_37, wl_38, wl_39, wl_40, wl_41, wl_42, wl_43, wl_44, wl_45, wl_46, wl_47, wl_48, wl_49, wl_50, wl_51, wl_52, wl_53, wl_54, wl_55, wl_56, wl_57, wl_58, wl_59, wl_60, wl_61, wl_62, wl_63, wl_64, wl_65, wl_66, wl_67, wl_68, wl_69, wl_70, wl_71, wl_72, wl_73, wl_74, wl_75, wl_76, wl_77, wl_78, wl_79, wl_80, wl_81, wl_82, wl_83, wl_84, wl_85, wl_86, wl_87, wl_88, wl_89, wl_90, wl_91, wl_92, wl_93, wl_94, wl_95, wl_96, wl_97, wl_98, wl_99, wl_100, wl_101, wl_102, wl_103, wl_104, wl_105, wl_106, wl_107, wl_108, wl_109, wl_110, wl_111, wl_112, wl_113, wl_114, wl_115, wl_116, wl_117, wl_118, wl_119, wl_120, wl_121, wl_122, wl_123, wl_124, wl_125, wl_126, wl_127, wl_128, wl_129, wl_130, wl_159, wl_160, wl_200, wl_232, wl_255, wl_256, wl_300, wl_359, wl_360, wl_400, wl_592, wl_992, wl_999, wl_1000, wl_1024, wl_3456, wl_6512, wl_7104, wl_10000, wl_11264, wl_12345, wl_32767, wl_1000000000, wl_1103515245, wl_2000000000, w_add, w_sub, w_mul, w_neg, w_lt, w_le, w_eq, w_cl, w_in, w_nat, w_max2, w_min2, w_abs2, iltT, iltF, ileT, ileF, ieqT, ieqF, bv_01, bft, bv_0, bv_1, bv_t, bv_f, cond_true, cond_false, Bool.not_true, Bool.not_false, if_true, if_false, true_or, or_true, true_and, and_true, ↓reduceIte, decide_true, decide_false, reduceCtorEq, u2_s, u2_o, u2_k, u2_u2, Bool.true_or, Bool.or_true, Bool.false_or, Bool.or_false, Bool.and_true, Bool.true_and, Bool.and_false, Bool.false_and, eq_self, not_true_eq_false, not_false_eq_true, and_self, and_true, true_and, false_and, and_false, w_dv, dvm, XSH_e hX, y1, z, u1, l1]
        obtain ⟨I2, mk2, l1, l2, l3, l4⟩ := lp 200 1 0 I1 (mk + 1) (by omega) (by omega) G1 (by omega) (by omega)
        have hX' := x4.1
        refine XW_o (by unfold cTill; rw [if_pos ⟨by unfold vPH; exact c1, c0⟩, if_pos (by unfold vTH; exact c2)]) ⟨I2, R1, mk2, ?_, l2, by omega, FX_tr x5 l4, x6⟩
        unfold vTill
        subst g4
        rw [eq_363, eq_190]
        simp (disch := first | assumption | omega | (simp (disch := omega) only [vM_u, vS_u]; first | assumption | omega)) only [hK, hL, hR, hI, hN, sI, hSp, hC, hW, li, lr, ↓cnd_a, ↓cnd_o, ↓cnd_n, ↓cnd_d, ↓z0, ↓z1, ↓z2, y0n, y1i, y2r, y0e, y1e, y2e, wl_0, wl_1, wl_2, wl_3, wl_4, wl_5, wl_6, wl_7, wl_8, wl_9, wl_10, wl_11, wl_12, wl_13, wl_14, wl_15, wl_16, wl_17, wl_18, wl_19, wl_20, wl_21, wl_22, wl_23, wl_24, wl_25, wl_26, wl_27, wl_28, wl_29, wl_30, wl_31, wl_32, wl_33, wl_34, wl_35, wl_36, wl_37, wl_38, wl_39, wl_40, wl_41, wl_42, wl_43, wl_44, wl_45, wl_46, wl_47, wl_48, wl_49, wl_50, wl_51, wl_52, wl_53, wl_54, wl_55, wl_56, wl_57, wl_58, wl_59, wl_60, wl_61, wl_62, wl_63, wl_64, wl_65, wl_66, wl_67, wl_68, wl_69, wl_70, wl_71, wl_72, wl_73, wl_74, wl_75, wl_76, wl_77, wl_78, wl_79, wl_80, wl_81, wl_82, wl_83, wl_84, wl_85, wl_86, wl_87, wl_88, wl_89, wl_90, wl_91, wl_92, wl_93, wl_94, wl_95, wl_96, wl_97, wl_98, wl_99, wl_100, wl_101, wl_102, wl_103, wl_104, wl_105, wl_106, wl_107, wl_108, wl_109, wl_110, wl_111, wl_112, wl_113, wl_114, wl_115, wl_116, wl_117, wl_118, wl_119, wl_120, wl_121, wl_122, wl_123, wl_124, wl_125, wl_126, wl_127, wl_128, wl_129, wl_130, wl_159, wl_160, wl_200, wl_232, wl_255, wl_256, wl_300, wl_359, wl_360, wl_400, wl_592, wl_992, wl_999, wl_1000, wl_1024, wl_3456, wl_6512, wl_7104, wl_10000, wl_11264, wl_12345, wl_32767, wl_1000000000, wl_1103515245, wl_2000000000, w_add, w_sub, w_mul, w_neg, w_lt, w_le, w_eq, w_cl, w_in, w_nat, w_max2, w_min2, w_abs2, iltT, iltF, ileT, ileF, ieqT, ieqF, bv_01, bft, bv_0, bv_1, bv_t, bv_f, cond_true, cond_false, Bool.not_true, Bool.not_false, if_true, if_false, true_or, or_true, true_and, and_true, ↓reduceIte, decide_true, decide_false, reduceCtorEq, u2_s, u2_o, u2_k, u2_u2, Bool.true_or, Bool.or_true, Bool.false_or, Bool.or_false, Bool.and_true, Bool.true_and, Bool.and_false, Bool.false_and, eq_self, not_true_eq_false, not_false_eq_true, and_self, and_true, true_and, false_and, and_false, w_dv, dvm, sJ, k1, k2, XSH_e hX, x_209t hX hS, x_210t hX hS, x_208t hX hS, x_214t hX, x1, XSH_e hX', eq_80, l1]
        all_goals rfl
      · refine XW_e (k := 2) (by unfold cTill; rw [if_pos ⟨c1, c0⟩, if_neg c2]) (by decide) ?_
        unfold vPH at c1
        unfold vTH at c2
        subst g4
        rw [eq_363, eq_190]
        simp (disch := first | assumption | omega | (simp (disch := omega) only [vM_u, vS_u]; first | assumption | omega)) only [hK, hL, hR, hI, hN, sI, hSp, hC, hW, li, lr, ↓cnd_a, ↓cnd_o, ↓cnd_n, ↓cnd_d, ↓z0, ↓z1, ↓z2, y0n, y1i, y2r, y0e, y1e, y2e, wl_0, wl_1, wl_2, wl_3, wl_4, wl_5, wl_6, wl_7, wl_8, wl_9, wl_10, wl_11, wl_12, wl_13, wl_14, wl_15, wl_16, wl_17, wl_18, wl_19, wl_20, wl_21, wl_22, wl_23, wl_24, wl_25, wl_26, wl_27, wl_28, wl_29, wl_30, wl_31, wl_32, wl_33, wl_34, wl_35, wl_36, wl_37, wl_38, wl_39, wl_40, wl_41, wl_42, wl_43, wl_44, wl_45, wl_46, wl_47, wl_48, wl_49, wl_50, wl_51, wl_52, wl_53, wl_54, wl_55, wl_56, wl_57, wl_58, wl_59, wl_60, wl_61, wl_62, wl_63, wl_64, wl_65, wl_66, wl_67, wl_68, wl_69, wl_70, wl_71, wl_72, wl_73, wl_74, wl_75, wl_76, wl_77, wl_78, wl_79, wl_80, wl_81, wl_82, wl_83, wl_84, wl_85, wl_86, wl_87, wl_88, wl_89, wl_90, wl_91, wl_92, wl_93, wl_94, wl_95, wl_96, wl_97, wl_98, wl_99, wl_100, wl_101, wl_102, wl_103, wl_104, wl_105, wl_106, wl_107, wl_108, wl_109, wl_110, wl_111, wl_112, wl_113, wl_114, wl_115, wl_116, wl_117, wl_118, wl_119, wl_120, wl_121, wl_122, wl_123, wl_124, wl_125, wl_126, wl_127, wl_128, wl_129, wl_130, wl_159, wl_160, wl_200, wl_232, wl_255, wl_256, wl_300, wl_359, wl_360, wl_400, wl_592, wl_992, wl_999, wl_1000, wl_1024, wl_3456, wl_6512, wl_7104, wl_10000, wl_11264, wl_12345, wl_32767, wl_1000000000, wl_1103515245, wl_2000000000, w_add, w_sub, w_mul, w_neg, w_lt, w_le, w_eq, w_cl, w_in, w_nat, w_max2, w_min2, w_abs2, iltT, iltF, ileT, ileF, ieqT, ieqF, bv_01, bft, bv_0, bv_1, bv_t, bv_f, cond_true, cond_false, Bool.not_true, Bool.not_false, if_true, if_false, true_or, or_true, true_and, and_true, ↓reduceIte, decide_true, decide_false, reduceCtorEq, u2_s, u2_o, u2_k, u2_u2, Bool.true_or, Bool.or_true, Bool.false_or, Bool.or_false, Bool.and_true, Bool.true_and, Bool.and_false, Bool.false_and, eq_self, not_true_eq_false, not_false_eq_true, and_self, and_true, true_and, false_and, and_false, w_dv, dvm, XSH_e hX, x_209t hX hS, x_210t hX hS, x_208t hX hS, x_214f hX]
        all_goals rfl
    · refine XW_e (k := 1) (by unfold cTill; rw [if_neg (fun z => c0 z.2)]) (by decide) ?_
      unfold vPH at c1
      subst g4
      rw [eq_363, eq_190]
      simp (disch := first | assumption | omega | (simp (disch := omega) only [vM_u, vS_u]; first | assumption | omega)) only [hK, hL, hR, hI, hN, sI, hSp, hC, hW, li, lr, ↓cnd_a, ↓cnd_o, ↓cnd_n, ↓cnd_d, ↓z0, ↓z1, ↓z2, y0n, y1i, y2r, y0e, y1e, y2e, wl_0, wl_1, wl_2, wl_3, wl_4, wl_5, wl_6, wl_7, wl_8, wl_9, wl_10, wl_11, wl_12, wl_13, wl_14, wl_15, wl_16, wl_17, wl_18, wl_19, wl_20, wl_21, wl_22, wl_23, wl_24, wl_25, wl_26, wl_27, wl_28, wl_29, wl_30, wl_31, wl_32, wl_33, wl_34, wl_35, wl_36, wl_37, wl_38, wl_39, wl_40, wl_41, wl_42, wl_43, wl_44, wl_45, wl_46, wl_47, wl_48, wl_49, wl_50, wl_51, wl_52, wl_53, wl_54, wl_55, wl_56, wl_57, wl_58, wl_59, wl_60, wl_61, wl_62, wl_63, wl_64, wl_65, wl_66, wl_67, wl_68, wl_69, wl_70, wl_71, wl_72, wl_73, wl_74, wl_75, wl_76, wl_77, wl_78, wl_79, wl_80, wl_81, wl_82, wl_83, wl_84, wl_85, wl_86, wl_87, wl_88, wl_89, wl_90, wl_91, wl_92, wl_93, wl_94, wl_95, wl_96, wl_97, wl_98, wl_99, wl_100, wl_101, wl_102, wl_103, wl_104, wl_105, wl_106, wl_107, wl_108, wl_109, wl_110, wl_111, wl_112, wl_113, wl_114, wl_115, wl_116, wl_117, wl_118, wl_119, wl_120, wl_121, wl_122, wl_123, wl_124, wl_125, wl_126, wl_127, wl_128, wl_129, wl_130, wl_159, wl_160, wl_200, wl_232, wl_255, wl_256, wl_300, wl_359, wl_360, wl_400, wl_592, wl_992, wl_999, wl_1000, wl_1024, wl_3456, wl_6512, wl_7104, wl_10000, wl_11264, wl_12345, wl_32767, wl_1000000000, wl_1103515245, wl_2000000000, w_add, w_sub, w_mul, w_neg, w_lt, w_le, w_eq, w_cl, w_in, w_nat, w_max2, w_min2, w_abs2, iltT, iltF, ileT, ileF, ieqT, ieqF, bv_01, bft, bv_0, bv_1, bv_t, bv_f, cond_true, cond_false, Bool.not_true, Bool.not_false, if_true, if_false, true_or, or_true, true_and, and_true, ↓reduceIte, decide_true, decide_false, reduceCtorEq, u2_s, u2_o, u2_k, u2_u2, Bool.true_or, Bool.or_true, Bool.false_or, Bool.or_false, Bool.and_true, Bool.true_and, Bool.and_false, Bool.false_and, eq_self, not_true_eq_false, not_false_eq_true, and_self, and_true, true_and, false_and, and_false, w_dv, dvm, XSH_e hX, x_209t hX hS, x_210t hX hS, x_208f hX hS]
      all_goals rfl
  · refine XW_e (k := 1) (by unfold cTill; rw [if_neg (fun z => c1 z.1)]) (by decide) ?_
    unfold vPH at c1
    subst g4
    rw [eq_363, eq_190]
    by_cases c2 : 0 ≤ p ∧ p < vS I 91 5
    · simp (disch := first | assumption | omega | (simp (disch := omega) only [vM_u, vS_u]; first | assumption | omega)) only [hK, hL, hR, hI, hN, sI, hSp, hC, hW, li, lr, ↓cnd_a, ↓cnd_o, ↓cnd_n, ↓cnd_d, ↓z0, ↓z1, ↓z2, y0n, y1i, y2r, y0e, y1e, y2e, wl_0, wl_1, wl_2, wl_3, wl_4, wl_5, wl_6, wl_7, wl_8, wl_9, wl_10, wl_11, wl_12, wl_13, wl_14, wl_15, wl_16, wl_17, wl_18, wl_19, wl_20, wl_21, wl_22, wl_23, wl_24, wl_25, wl_26, wl_27, wl_28, wl_29, wl_30, wl_31, wl_32, wl_33, wl_34, wl_35, wl_36, wl_37, wl_38, wl_39, wl_40, wl_41, wl_42, wl_43, wl_44, wl_45, wl_46, wl_47, wl_48, wl_49, wl_50, wl_51, wl_52, wl_53, wl_54, wl_55, wl_56, wl_57, wl_58, wl_59, wl_60, wl_61, wl_62, wl_63, wl_64, wl_65, wl_66, wl_67, wl_68, wl_69, wl_70, wl_71, wl_72, wl_73, wl_74, wl_75, wl_76, wl_77, wl_78, wl_79, wl_80, wl_81, wl_82, wl_83, wl_84, wl_85, wl_86, wl_87, wl_88, wl_89, wl_90, wl_91, wl_92, wl_93, wl_94, wl_95, wl_96, wl_97, wl_98, wl_99, wl_100, wl_101, wl_102, wl_103, wl_104, wl_105, wl_106, wl_107, wl_108, wl_109, wl_110, wl_111, wl_112, wl_113, wl_114, wl_115, wl_116, wl_117, wl_118, wl_119, wl_120, wl_121, wl_122, wl_123, wl_124, wl_125, wl_126, wl_127, wl_128, wl_129, wl_130, wl_159, wl_160, wl_200, wl_232, wl_255, wl_256, wl_300, wl_359, wl_360, wl_400, wl_592, wl_992, wl_999, wl_1000, wl_1024, wl_3456, wl_6512, wl_7104, wl_10000, wl_11264, wl_12345, wl_32767, wl_1000000000, wl_1103515245, wl_2000000000, w_add, w_sub, w_mul, w_neg, w_lt, w_le, w_eq, w_cl, w_in, w_nat, w_max2, w_min2, w_abs2, iltT, iltF, ileT, ileF, ieqT, ieqF, bv_01, bft, bv_0, bv_1, bv_t, bv_f, cond_true, cond_false, Bool.not_true, Bool.not_false, if_true, if_false, true_or, or_true, true_and, and_true, ↓reduceIte, decide_true, decide_false, reduceCtorEq, u2_s, u2_o, u2_k, u2_u2, Bool.true_or, Bool.or_true, Bool.false_or, Bool.or_false, Bool.and_true, Bool.true_and, Bool.and_false, Bool.false_and, eq_self, not_true_eq_false, not_false_eq_true, and_self, and_true, true_and, false_and, and_false, w_dv, dvm, XSH_e hX, x_209f hX hS, x_210t hX hS]
      all_goals rfl
    · simp (disch := first | assumption | omega | (simp (disch := omega) only [vM_u, vS_u]; first | assumption | omega)) only [hK, hL, hR, hI, hN, sI, hSp, hC, hW, li, lr, ↓cnd_a, ↓cnd_o, ↓cnd_n, ↓cnd_d, ↓z0, ↓z1, ↓z2, y0n, y1i, y2r, y0e, y1e, y2e, wl_0, wl_1, wl_2, wl_3, wl_4, wl_5, wl_6, wl_7, wl_8, wl_9, wl_10, wl_11, wl_12, wl_13, wl_14, wl_15, wl_16, wl_17, wl_18, wl_19, wl_20, wl_21, wl_22, wl_23, wl_24, wl_25, wl_26, wl_27, wl_28, wl_29, wl_30, wl_31, wl_32, wl_33, wl_34, wl_35, wl_36, wl_37, wl_38, wl_39, wl_40, wl_41, wl_42, wl_43, wl_44, wl_45, wl_46, wl_47, wl_48, wl_49, wl_50, wl_51, wl_52, wl_53, wl_54, wl_55, wl_56, wl_57, wl_58, wl_59, wl_60, wl_61, wl_62, wl_63, wl_64, wl_65, wl_66, wl_67, wl_68, wl_69, wl_70, wl_71, wl_72, wl_73, wl_74, wl_75, wl_76, wl_77, wl_78, wl_79, wl_80, wl_81, wl_82, wl_83, wl_84, wl_85, wl_86, wl_87, wl_88, wl_89, wl_90, wl_91, wl_92, wl_93, wl_94, wl_95, wl_96, wl_97, wl_98, wl_99, wl_100, wl_101, wl_102, wl_103, wl_104, wl_105, wl_106, wl_107, wl_108, wl_109, wl_110, wl_111, wl_112, wl_113, wl_114, wl_115, wl_116, wl_117, wl_118, wl_119, wl_120, wl_121, wl_122, wl_123, wl_124, wl_125, wl_126, wl_127, wl_128, wl_129, wl_130, wl_159, wl_160, wl_200, wl_232, wl_255, wl_256, wl_300, wl_359, wl_360, wl_400, wl_592, wl_992, wl_999, wl_1000, wl_1024, wl_3456, wl_6512, wl_7104, wl_10000, wl_11264, wl_12345, wl_32767, wl_1000000000, wl_1103515245, wl_2000000000, w_add, w_sub, w_mul, w_neg, w_lt, w_le, w_eq, w_cl, w_in, w_nat, w_max2, w_min2, w_abs2, iltT, iltF, ileT, ileF, ieqT, ieqF, bv_01, bft, bv_0, bv_1, bv_t, bv_f, cond_true, cond_false, Bool.not_true, Bool.not_false, if_true, if_false, true_or, or_true, true_and, and_true, ↓reduceIte, decide_true, decide_false, reduceCtorEq, u2_s, u2_o, u2_k, u2_u2, Bool.true_or, Bool.or_true, Bool.false_or, Bool.or_false, Bool.and_true, Bool.true_and, Bool.and_false, Bool.false_and, eq_self, not_true_eq_false, not_false_eq_true, and_self, and_true, true_and, false_and, and_false, w_dv, dvm, XSH_e hX, x_210f hX hS]
      all_goals rfl
theorem m_311 {d : Nat} {m : Int → Int} {ss : List Int} {ln p h f hi pa b : Int} (hQ : QR K L R I m ss ln) (hr : (-2147483648 ≤ p ∧ p < 2147483648) ∧ (-2147483648 ≤ h ∧ h < 2147483648) ∧ (-2147483648 ≤ f ∧ f < 2147483648) ∧ (-2147483648 ≤ hi ∧ hi < 2147483648) ∧ (-2147483648 ≤ pa ∧ pa < 2147483648) ∧ (-2147483648 ≤ b ∧ b < 2147483648)) :
    XM vn vc vw K L R I J m ss ln (ev PR (d + 35) 311 [.ref 287, .int (w p), .int (w h), .int (w f), .int (w hi), .int (w pa), .int (w b)] (((vn, vc, vw, K, L, R), I, J) : HS)) (cTill m p h f hi pa b) (w (vTill m ss ln p h f hi pa b)) := by
  obtain ⟨hM, g2, g3, g4, g5, g6⟩ := id hQ
  have hB3 := g5.1
  have hB4 := g5.2.1
  have hB5 := g5.2.2.1
  by_cases c1 : vPH m p h
  · by_cases c0 : 0 ≤ b ∧ b < m 3
    · have s2 := m_227t (d := d + 32) (b := b) (I := I) (vn := vn) (vc := vc) (vw := vw) (J := J) hM (by rw [g4]; omega)
      by_cases c2 : vTH f hi pa
      · unfold vPH at c1
        unfold vTH at c2
        have hpp := g5.2.2.2.2.2.2.2.2.2.2.2 p c1.1.1 c1.1.2
        have s := m_275t (d := d + 31) (I := I) (p := p) (h := h) (a := f) (b := hi) (c := pa) (vn := vn) (vc := vc) (vw := vw) (J := J) hM (by rw [g4]; omega) (by rw [g4]; exact ⟨c1, c2⟩)
        have ek : (ix b : Int) = b := by unfold ix; omega
        have lp : ∀ (k : Nat) (n s : Int) (I : Nat → Nat → Int32) (w9 : Value), 1 ≤ n → n + k = 201 → QR K L R I m ss ln → 0 ≤ s ∧ s < 10000 → ∃ I', atv PR (d + 34) cd_311 33 [.ref 287, .int (w p), .int (w h), .int (w f), .int (w hi), .int (w pa), .int (w b), .int (w s), .int (w n), w9] [] (((vn, vc, vw, K, L, R), I, J) : HS) = some (.inl (some (.int (w (tilF (fun n => odF (wyN m ss ln p h f hi pa n) (alN m ss ln p h f hi pa n) b) k n s)))), (((vn, vc, vw, K, L, R), I', J) : HS)) ∧ FQ I I' ∧ QR K L R I' m ss ln := by
          intro k
          induction k with
          | zero =>
            intro n s I w9 hn hk hQ hs
            have en : n = 201 := by omega
            subst en
            refine ⟨I, ?_, FQ_rf, hQ⟩
            rw [eq_311_33]
            simp (disch := first | assumption | omega | (simp (disch := omega) only [vM_u, vS_u]; first | assumption | omega)) only [hK, hL, hR, hI, hN, sI, hSp, hC, hW, li, lr, ↓cnd_a, ↓cnd_o, ↓cnd_n, ↓cnd_d, ↓z0, ↓z1, ↓z2, y0n, y1i, y2r, y0e, y1e, y2e, wl_0, wl_1, wl_2, wl_3, wl_4, wl_5, wl_6, wl_7, wl_8, wl_9, wl_10, wl_11, wl_12, wl_13, wl_14, wl_15, wl_16, wl_17, wl_18, wl_19, wl_20, wl_21, wl_22, wl_23, wl_24, wl_25, wl_26, wl_27, wl_28, wl_29, wl_30, wl_31, wl_32, wl_33, wl_34, wl_35, wl_36, wl_37, wl_38, wl_39, wl_40, wl_41, wl_42, wl_43, wl_44, wl_45, wl_46, wl_47, wl_48, wl_49, wl_50, wl_51, wl_52, wl_53, wl_54, wl_55, wl_56, wl_57, wl_58, wl_59, wl_60, wl_61, wl_62, wl_63, wl_64, wl_65, wl_66, wl_67, wl_68, wl_69, wl_70, wl_71, wl_72, wl_73, wl_74, wl_75, wl_76, wl_77, wl_78, wl_79, wl_80, wl_81, wl_82, wl_83, wl_84, wl_85, wl_86, wl_87, wl_88, wl_89, wl_90, wl_91, wl_92, wl_93, wl_94, wl_95, wl_96, wl_97, wl_98, wl_99, wl_100, wl_101, wl_102, wl_103, wl_104, wl_105, wl_106, wl_107, wl_108, wl_109, wl_110, wl_111, wl_112, wl_113, wl_114, wl_115, wl_116, wl_117, wl_118, wl_119, wl_120, wl_121, wl_122, wl_123, wl_124, wl_125, wl_126, wl_127, wl_128, wl_129, wl_130, wl_159, wl_160, wl_200, wl_232, wl_255, wl_256, wl_300, wl_359, wl_360, wl_400, wl_592, wl_992, wl_999, wl_1000, wl_1024, wl_3456, wl_6512, wl_7104, wl_10000, wl_11264, wl_12345, wl_32767, wl_1000000000, wl_1103515245, wl_2000000000, w_add, w_sub, w_mul, w_neg, w_lt, w_le, w_eq, w_cl, w_in, w_nat, w_max2, w_min2, w_abs2, iltT, iltF, ileT, ileF, ieqT, ieqF, bv_01, bft, bv_0, bv_1, bv_t, bv_f, cond_true, cond_false, Bool.not_true, Bool.not_false, if_true, if_false, true_or, or_true, true_and, and_true, ↓reduceIte, decide_true, decide_false, reduceCtorEq, u2_s, u2_o, u2_k, u2_u2, Bool.true_or, Bool.or_true, Bool.false_or, Bool.or_false, Bool.and_true, Bool.true_and, Bool.and_false, Bool.false_and, eq_self, not_true_eq_false, not_false_eq_true, and_self, and_true, true_and, false_and, and_false, w_dv, dvm]
            rfl
          | succ k ih =>
            intro n s I w9 hn hk hQ hs
            have hM := hQ.1
            obtain ⟨I1, I2, y1, y2, y3, y4, y5, y6, y7, y8, y9⟩ := rt_1 (d := d) (p := p) (h := h) (f := f) (hi := hi) (pa := pa) (t := n - 1) (sk := min 99 (pe m p 0 + (n - 1))) (th := pe m p 1 + (n - 1)) (we := ho m h 2) (vn := vn) (vc := vc) (vw := vw) (J := J) hQ c1.1 c1.2 (by omega) (by omega) rfl rfl rfl
            have wk : I2 295 (ix b) = w (wyN m ss ln p h f hi pa n b) := by rw [y5 _ (by omega), ek]; rfl
            obtain ⟨A, eA⟩ : ∃ A, A = alN m ss ln p h f hi pa n := ⟨_, rfl⟩
            have y2 : ev PR (d + 34) 267 [.ref 287, .int (w h)] (((vn, vc, vw, K, L, R), I1, J) : HS) = some (.inl (some (.int (w A))), (((vn, vc, vw, K, L, R), I2, J) : HS)) := by rw [eA]; exact y2
            have y7 : 1 ≤ A ∧ A ≤ 81 := by rw [eA]; exact y7
            obtain ⟨W, eW⟩ : ∃ W, W = wyN m ss ln p h f hi pa n b := ⟨_, rfl⟩
            have y8 : 0 ≤ W ∧ W ≤ 81 := by rw [eW]; exact y8 b
            rw [← eW] at wk
            obtain ⟨o, ho⟩ : ∃ o, o = 10000 * W / A := ⟨_, rfl⟩
            have ho2 : odF (wyN m ss ln p h f hi pa n) (alN m ss ln p h f hi pa n) b = o := by rw [ho, eW, eA]; unfold odF; rw [Int.mul_comm]
            have ob := odF_b (wy := fun _ => W) (al := A) (j := b) y7.1 y8
            have ho3 : odF (fun _ => W) A b = o := by rw [ho]; unfold odF; rw [Int.mul_comm]
            rw [ho3] at ob
            have et : tilF (fun n => odF (wyN m ss ln p h f hi pa n) (alN m ss ln p h f hi pa n) b) (k + 1) n s = if 10000 ≤ s + o then n else tilF (fun n => odF (wyN m ss ln p h f hi pa n) (alN m ss ln p h f hi pa n) b) k (n + 1) (s + o) := by rw [← ho2]; rfl
            rw [et]
            by_cases c3 : 10000 ≤ s + o
            · rw [if_pos c3]
              refine ⟨I2, ?_, y3, y4⟩
              rw [eq_311_33]
              simp (disch := first | assumption | omega | (simp (disch := omega) only [vM_u, vS_u]; first | assumption | omega)) only [hK, hL, hR, hI, hN, sI, hSp, hC, hW, li, lr, ↓cnd_a, ↓cnd_o, ↓cnd_n, ↓cnd_d, ↓z0, ↓z1, ↓z2, y0n, y1i, y2r, y0e, y1e, y2e, wl_0, wl_1, wl_2, wl_3, wl_4, wl_5, wl_6, wl_7, wl_8, wl_9, wl_10, wl_11, wl_12, wl_13, wl_14, wl_15, wl_16, wl_17, wl_18, wl_19, wl_20, wl_21, wl_22, wl_23, wl_24, wl_25, wl_26, wl_27, wl_28, wl_29, wl_30, wl_31, wl_32, wl_33, wl_34, wl_35, wl_36, wl_37, wl_38, wl_39, wl_40, wl_41, wl_42, wl_43, wl_44, wl_45, wl_46, wl_47, wl_48, wl_49, wl_50, wl_51, wl_52, wl_53, wl_54, wl_55, wl_56, wl_57, wl_58, wl_59, wl_60, wl_61, wl_62, wl_63, wl_64, wl_65, wl_66, wl_67, wl_68, wl_69, wl_70, wl_71, wl_72, wl_73, wl_74, wl_75, wl_76, wl_77, wl_78, wl_79, wl_80, wl_81, wl_82, wl_83, wl_84, wl_85, wl_86, wl_87, wl_88, wl_89, wl_90, wl_91, wl_92, wl_93, wl_94, wl_95, wl_96, wl_97, wl_98, wl_99, wl_100, wl_101, wl_102, wl_103, wl_104, wl_105, wl_106, wl_107, wl_108, wl_109, wl_110, wl_111, wl_112, wl_113, wl_114, wl_115, wl_116, wl_117, wl_118, wl_119, wl_120, wl_121, wl_122, wl_123, wl_124, wl_125, wl_126, wl_127, wl_128, wl_129, wl_130, wl_159, wl_160, wl_200, wl_232, wl_255, wl_256, wl_300, wl_359, wl_360, wl_400, wl_592, wl_992, wl_999, wl_1000, wl_1024, wl_3456, wl_6512, wl_7104, wl_10000, wl_11264, wl_12345, wl_32767, wl_1000000000, wl_1103515245, wl_2000000000, w_add, w_sub, w_mul, w_neg, w_lt, w_le, w_eq, w_cl, w_in, w_nat, w_max2, w_min2, w_abs2, iltT, iltF, ileT, ileF, ieqT, ieqF, bv_01, bft, bv_0, bv_1, bv_t, bv_f, cond_true, cond_false, Bool.not_true, Bool.not_false, if_true, if_false, true_or, or_true, true_and, and_true, ↓reduceIte, decide_true, decide_false, reduceCtorEq, u2_s, u2_o, u2_k, u2_u2, Bool.true_or, Bool.or_true, Bool.false_or, Bool.or_false, Bool.and_true, Bool.true_and, Bool.and_false, Bool.false_and, eq_self, not_true_eq_false, not_false_eq_true, and_self, and_true, true_and, false_and, and_false, w_dv, dvm, MSH_e hM, y1, y2, wk, ← ho]
            · rw [if_neg c3]
              obtain ⟨I', l1, l2, l3⟩ := ih (n + 1) (s + o) I2 (.int (w A)) (by omega) (by omega) y4 (by omega)
              refine ⟨I', ?_, FQ_tr y3 l2, l3⟩
              rw [eq_311_33]
              simp (disch := first | assumption | omega | (simp (disch := omega) only [vM_u, vS_u]; first | assumption | omega)) only [hK, hL, hR, hI, hN, sI, hSp, hC, hW, li, lr, ↓cnd_a, ↓cnd_o, ↓cnd_n, ↓cnd_d, ↓z0, ↓z1, ↓z2, y0n, y1i, y2r, y0e, y1e, y2e, wl_0, wl_1, wl_2, wl_3, wl_4, wl_5, wl_6, wl_7, wl_8, wl_9, wl_10, wl_11, wl_12, wl_13, wl_14, wl_15, wl_16, wl_17, wl_18, wl_19, wl_20, wl_21, wl_22, wl_23, wl_24, wl_25, wl_26, wl_27, wl_28, wl_29, wl_30, wl_31, wl_32, wl_33, wl_34, wl_35, wl_36, wl_37, wl_38, wl_39, wl_40, wl_41, wl_42, wl_43, wl_44, wl_45, wl_46, wl_47, wl_48, wl_49, wl_50, wl_51, wl_52, wl_53, wl_54, wl_55, wl_56, wl_57, wl_58, wl_59, wl_60, wl_61, wl_62, wl_63, wl_64, wl_65, wl_66, wl_67, wl_68, wl_69, wl_70, wl_71, wl_72, wl_73, wl_74, wl_75, wl_76, wl_77, wl_78, wl_79, wl_80, wl_81, wl_82, wl_83, wl_84, wl_85, wl_86, wl_87, wl_88, wl_89, wl_90, wl_91, wl_92, wl_93, wl_94, wl_95, wl_96, wl_97, wl_98, wl_99, wl_100, wl_101, wl_102, wl_103, wl_104, wl_105, wl_106, wl_107, wl_108, wl_109, wl_110, wl_111, wl_112, wl_113, wl_114, wl_115, wl_116, wl_117, wl_118, wl_119, wl_120, wl_121, wl_122, wl_123, wl_124, wl_125, wl_126, wl_127, wl_128, wl_129, wl_130, wl_159, wl_160, wl_200, wl_232, wl_255, wl_256, wl_300, wl_359, wl_360, wl_400, wl_592, wl_992, wl_999, wl_1000, wl_1024, wl_3456, wl_6512, wl_7104, wl_10000, wl_11264, wl_12345, wl_32767, wl_1000000000, wl_1103515245, wl_2000000000, w_add, w_sub, w_mul, w_neg, w_lt, w_le, w_eq, w_cl, w_in, w_nat, w_max2, w_min2, w_abs2, iltT, iltF, ileT, ileF, ieqT, ieqF, bv_01, bft, bv_0, bv_1, bv_t, bv_f, cond_true, cond_false, Bool.not_true, Bool.not_false, if_true, if_false, true_or, or_true, true_and, and_true, ↓reduceIte, decide_true, decide_false, reduceCtorEq, u2_s, u2_o, u2_k, u2_u2, Bool.true_or, Bool.or_true, Bool.false_or, Bool.or_false, Bool.and_true, Bool.true_and, Bool.and_false, Bool.false_and, eq_self, not_true_eq_false, not_false_eq_true, and_self, and_true, true_and, false_and, and_false, w_dv, dvm, MSH_e hM, y1, y2, wk, ← ho, l1]
        obtain ⟨I', l1, l2, l3⟩ := lp 200 1 0 (u2 I 287 0 (w 0)) (.retAddr 0) (by omega) (by omega) (QR_0 hQ) (by omega)
        refine XM_o (by unfold cTill; rw [if_pos ⟨by unfold vPH; exact c1, c0⟩, if_pos (by unfold vTH; exact c2)]) ⟨I', ?_, l2, l3⟩
        unfold vTill
        rw [eq_311]
        simp (disch := first | assumption | omega | (simp (disch := omega) only [vM_u, vS_u]; first | assumption | omega)) only [hK, hL, hR, hI, hN, sI, hSp, hC, hW, li, lr, ↓cnd_a, ↓cnd_o, ↓cnd_n, ↓cnd_d, ↓z0, ↓z1, ↓z2, y0n, y1i, y2r, y0e, y1e, y2e, wl_0, wl_1, wl_2, wl_3, wl_4, wl_5, wl_6, wl_7, wl_8, wl_9, wl_10, wl_11, wl_12, wl_13, wl_14, wl_15, wl_16, wl_17, wl_18, wl_19, wl_20, wl_21, wl_22, wl_23, wl_24, wl_25, wl_26, wl_27, wl_28, wl_29, wl_30, wl_31, wl_32, wl_33, wl_34, wl_35, wl_36, wl_37, wl_38, wl_39, wl_40, wl_41, wl_42, wl_43, wl_44, wl_45, wl_46, wl_47, wl_48, wl_49, wl_50, wl_51, wl_52, wl_53, wl_54, wl_55, wl_56, wl_57, wl_58, wl_59, wl_60, wl_61, wl_62, wl_63, wl_64, wl_65, wl_66, wl_67, wl_68, wl_69, wl_70, wl_71, wl_72, wl_73, wl_74, wl_75, wl_76, wl_77, wl_78, wl_79, wl_80, wl_81, wl_82, wl_83, wl_84, wl_85, wl_86, wl_87, wl_88, wl_89, wl_90, wl_91, wl_92, wl_93, wl_94, wl_95, wl_96, wl_97, wl_98, wl_99, wl_100, wl_101, wl_102, wl_103, wl_104, wl_105, wl_106, wl_107, wl_108, wl_109, wl_110, wl_111, wl_112, wl_113, wl_114, wl_115, wl_116, wl_117, wl_118, wl_119, wl_120, wl_121, wl_122, wl_123, wl_124, wl_125, wl_126, wl_127, wl_128, wl_129, wl_130, wl_159, wl_160, wl_200, wl_232, wl_255, wl_256, wl_300, wl_359, wl_360, wl_400, wl_592, wl_992, wl_999, wl_1000, wl_1024, wl_3456, wl_6512, wl_7104, wl_10000, wl_11264, wl_12345, wl_32767, wl_1000000000, wl_1103515245, wl_2000000000, w_add, w_sub, w_mul, w_neg, w_lt, w_le, w_eq, w_cl, w_in, w_nat, w_max2, w_min2, w_abs2, iltT, iltF, ileT, ileF, ieqT, ieqF, bv_01, bft, bv_0, bv_1, bv_t, bv_f, cond_true, cond_false, Bool.not_true, Bool.not_false, if_true, if_false, true_or, or_true, true_and, and_true, ↓reduceIte, decide_true, decide_false, reduceCtorEq, u2_s, u2_o, u2_k, u2_u2, Bool.true_or, Bool.or_true, Bool.false_or, Bool.or_false, Bool.and_true, Bool.true_and, Bool.and_false, Bool.false_and, eq_self, not_true_eq_false, not_false_eq_true, and_self, and_true, true_and, false_and, and_false, w_dv, dvm, MSH_e hM, s, s2, l1]
      · refine XM_e (k := 2) (v' := w 0) (by unfold cTill; rw [if_pos ⟨c1, c0⟩, if_neg c2]) (by decide) ?_
        unfold vPH at c1
        unfold vTH at c2
        have s := m_275b (d := d + 31) (I := I) (p := p) (h := h) (a := f) (b := hi) (c := pa) (vn := vn) (vc := vc) (vw := vw) (J := J) hM (by rw [g4]; omega) (by rw [g4]; exact ⟨c1, c2, by omega⟩)
        rw [eq_311]
        simp (disch := first | assumption | omega | (simp (disch := omega) only [vM_u, vS_u]; first | assumption | omega)) only [hK, hL, hR, hI, hN, sI, hSp, hC, hW, li, lr, ↓cnd_a, ↓cnd_o, ↓cnd_n, ↓cnd_d, ↓z0, ↓z1, ↓z2, y0n, y1i, y2r, y0e, y1e, y2e, wl_0, wl_1, wl_2, wl_3, wl_4, wl_5, wl_6, wl_7, wl_8, wl_9, wl_10, wl_11, wl_12, wl_13, wl_14, wl_15, wl_16, wl_17, wl_18, wl_19, wl_20, wl_21, wl_22, wl_23, wl_24, wl_25, wl_26, wl_27, wl_28, wl_29, wl_30, wl_31, wl_32, wl_33, wl_34, wl_35, wl_36, wl_37, wl_38, wl_39, wl_40, wl_41, wl_42, wl_43, wl_44, wl_45, wl_46, wl_47, wl_48, wl_49, wl_50, wl_51, wl_52, wl_53, wl_54, wl_55, wl_56, wl_57, wl_58, wl_59, wl_60, wl_61, wl_62, wl_63, wl_64, wl_65, wl_66, wl_67, wl_68, wl_69, wl_70, wl_71, wl_72, wl_73, wl_74, wl_75, wl_76, wl_77, wl_78, wl_79, wl_80, wl_81, wl_82, wl_83, wl_84, wl_85, wl_86, wl_87, wl_88, wl_89, wl_90, wl_91, wl_92, wl_93, wl_94, wl_95, wl_96, wl_97, wl_98, wl_99, wl_100, wl_101, wl_102, wl_103, wl_104, wl_105, wl_106, wl_107, wl_108, wl_109, wl_110, wl_111, wl_112, wl_113, wl_114, wl_115, wl_116, wl_117, wl_118, wl_119, wl_120, wl_121, wl_122, wl_123, wl_124, wl_125, wl_126, wl_127, wl_128, wl_129, wl_130, wl_159, wl_160, wl_200, wl_232, wl_255, wl_256, wl_300, wl_359, wl_360, wl_400, wl_592, wl_992, wl_999, wl_1000, wl_1024, wl_3456, wl_6512, wl_7104, wl_10000, wl_11264, wl_12345, wl_32767, wl_1000000000, wl_1103515245, wl_2000000000, w_add, w_sub, w_mul, w_neg, w_lt, w_le, w_eq, w_cl, w_in, w_nat, w_max2, w_min2, w_abs2, iltT, iltF, ileT, ileF, ieqT, ieqF, bv_01, bft, bv_0, bv_1, bv_t, bv_f, cond_true, cond_false, Bool.not_true, Bool.not_false, if_true, if_false, true_or, or_true, true_and, and_true, ↓reduceIte, decide_true, decide_false, reduceCtorEq, u2_s, u2_o, u2_k, u2_u2, Bool.true_or, Bool.or_true, Bool.false_or, Bool.or_false, Bool.and_true, Bool.true_and, Bool.and_false, Bool.false_and, eq_self, not_true_eq_false, not_false_eq_true, and_self, and_true, true_and, false_and, and_false, w_dv, dvm, MSH_e hM, s, s2]
    · refine XM_e (k := 1) (v' := w 0) (by unfold cTill; rw [if_neg (fun z => c0 z.2)]) (by decide) ?_
      unfold vPH at c1
      have s2 := m_227f (d := d + 32) (b := b) (I := I) (vn := vn) (vc := vc) (vw := vw) (J := J) hM (by rw [g4]; omega)
      rw [eq_311]
      by_cases c2 : (0 ≤ f ∧ f ≤ 59) ∧ (0 ≤ hi ∧ hi ≤ 5) ∧ 0 ≤ pa ∧ pa ≤ 11
      · have s := m_275t (d := d + 31) (I := I) (p := p) (h := h) (a := f) (b := hi) (c := pa) (vn := vn) (vc := vc) (vw := vw) (J := J) hM (by rw [g4]; omega) (by rw [g4]; exact ⟨c1, c2⟩)
        simp (disch := first | assumption | omega | (simp (disch := omega) only [vM_u, vS_u]; first | assumption | omega)) only [hK, hL, hR, hI, hN, sI, hSp, hC, hW, li, lr, ↓cnd_a, ↓cnd_o, ↓cnd_n, ↓cnd_d, ↓z0, ↓z1, ↓z2, y0n, y1i, y2r, y0e, y1e, y2e, wl_0, wl_1, wl_2, wl_3, wl_4, wl_5, wl_6, wl_7, wl_8, wl_9, wl_10, wl_11, wl_12, wl_13, wl_14, wl_15, wl_16, wl_17, wl_18, wl_19, wl_20, wl_21, wl_22, wl_23, wl_24, wl_25, wl_26, wl_27, wl_28, wl_29, wl_30, wl_31, wl_32, wl_33, wl_34, wl_35, wl_36, wl_37, wl_38, wl_39, wl_40, wl_41, wl_42, wl_43, wl_44, wl_45, wl_46, wl_47, wl_48, wl_49, wl_50, wl_51, wl_52, wl_53, wl_54, wl_55, wl_56, wl_57, wl_58, wl_59, wl_60, wl_61, wl_62, wl_63, wl_64, wl_65, wl_66, wl_67, wl_68, wl_69, wl_70, wl_71, wl_72, wl_73, wl_74, wl_75, wl_76, wl_77, wl_78, wl_79, wl_80, wl_81, wl_82, wl_83, wl_84, wl_85, wl_86, wl_87, wl_88, wl_89, wl_90, wl_91, wl_92, wl_93, wl_94, wl_95, wl_96, wl_97, wl_98, wl_99, wl_100, wl_101, wl_102, wl_103, wl_104, wl_105, wl_106, wl_107, wl_108, wl_109, wl_110, wl_111, wl_112, wl_113, wl_114, wl_115, wl_116, wl_117, wl_118, wl_119, wl_120, wl_121, wl_122, wl_123, wl_124, wl_125, wl_126, wl_127, wl_128, wl_129, wl_130, wl_159, wl_160, wl_200, wl_232, wl_255, wl_256, wl_300, wl_359, wl_360, wl_400, wl_592, wl_992, wl_999, wl_1000, wl_1024, wl_3456, wl_6512, wl_7104, wl_10000, wl_11264, wl_12345, wl_32767, wl_1000000000, wl_1103515245, wl_2000000000, w_add, w_sub, w_mul, w_neg, w_lt, w_le, w_eq, w_cl, w_in, w_nat, w_max2, w_min2, w_abs2, iltT, iltF, ileT, ileF, ieqT, ieqF, bv_01, bft, bv_0, bv_1, bv_t, bv_f, cond_true, cond_false, Bool.not_true, Bool.not_false, if_true, if_false, true_or, or_true, true_and, and_true, ↓reduceIte, decide_true, decide_false, reduceCtorEq, u2_s, u2_o, u2_k, u2_u2, Bool.true_or, Bool.or_true, Bool.false_or, Bool.or_false, Bool.and_true, Bool.true_and, Bool.and_false, Bool.false_and, eq_self, not_true_eq_false, not_false_eq_true, and_self, and_true, true_and, false_and, and_false, w_dv, dvm, MSH_e hM, s, s2]
      · have s := m_275b (d := d + 31) (I := I) (p := p) (h := h) (a := f) (b := hi) (c := pa) (vn := vn) (vc := vc) (vw := vw) (J := J) hM (by rw [g4]; omega) (by rw [g4]; exact ⟨c1, c2, by omega⟩)
        simp (disch := first | assumption | omega | (simp (disch := omega) only [vM_u, vS_u]; first | assumption | omega)) only [hK, hL, hR, hI, hN, sI, hSp, hC, hW, li, lr, ↓cnd_a, ↓cnd_o, ↓cnd_n, ↓cnd_d, ↓z0, ↓z1, ↓z2, y0n, y1i, y2r, y0e, y1e, y2e, wl_0, wl_1, wl_2, wl_3, wl_4, wl_5, wl_6, wl_7, wl_8, wl_9, wl_10, wl_11, wl_12, wl_13, wl_14, wl_15, wl_16, wl_17, wl_18, wl_19, wl_20, wl_21, wl_22, wl_23, wl_24, wl_25, wl_26, wl_27, wl_28, wl_29, wl_30, wl_31, wl_32, wl_33, wl_34, wl_35, wl_36, wl_37, wl_38, wl_39, wl_40, wl_41, wl_42, wl_43, wl_44, wl_45, wl_46, wl_47, wl_48, wl_49, wl_50, wl_51, wl_52, wl_53, wl_54, wl_55, wl_56, wl_57, wl_58, wl_59, wl_60, wl_61, wl_62, wl_63, wl_64, wl_65, wl_66, wl_67, wl_68, wl_69, wl_70, wl_71, wl_72, wl_73, wl_74, wl_75, wl_76, wl_77, wl_78, wl_79, wl_80, wl_81, wl_82, wl_83, wl_84, wl_85, wl_86, wl_87, wl_88, wl_89, wl_90, wl_91, wl_92, wl_93, wl_94, wl_95, wl_96, wl_97, wl_98, wl_99, wl_100, wl_101, wl_102, wl_103, wl_104, wl_105, wl_106, wl_107, wl_108, wl_109, wl_110, wl_111, wl_112, wl_113, wl_114, wl_115, wl_116, wl_117, wl_118, wl_119, wl_120, wl_121, wl_122, wl_123, wl_124, wl_125, wl_126, wl_127, wl_128, wl_129, wl_130, wl_159, wl_160, wl_200, wl_232, wl_255, wl_256, wl_300, wl_359, wl_360, wl_400, wl_592, wl_992, wl_999, wl_1000, wl_1024, wl_3456, wl_6512, wl_7104, wl_10000, wl_11264, wl_12345, wl_32767, wl_1000000000, wl_1103515245, wl_2000000000, w_add, w_sub, w_mul, w_neg, w_lt, w_le, w_eq, w_cl, w_in, w_nat, w_max2, w_min2, w_abs2, iltT, iltF, ileT, ileF, ieqT, ieqF, bv_01, bft, bv_0, bv_1, bv_t, bv_f, cond_true, cond_false, Bool.not_true, Bool.not_false, if_true, if_false, true_or, or_true, true_and, and_true, ↓reduceIte, decide_true, decide_false, reduceCtorEq, u2_s, u2_o, u2_k, u2_u2, Bool.true_or, Bool.or_true, Bool.false_or, Bool.or_false, Bool.and_true, Bool.true_and, Bool.and_false, Bool.false_and, eq_self, not_true_eq_false, not_false_eq_true, and_self, and_true, true_and, false_and, and_false, w_dv, dvm, MSH_e hM, s, s2]
  · refine XM_e (k := 1) (v' := w 0) (by unfold cTill; rw [if_neg (fun z => c1 z.1)]) (by decide) ?_
    unfold vPH at c1
    have s := m_275a (d := d + 31) (I := I) (p := p) (h := h) (a := f) (b := hi) (c := pa) (vn := vn) (vc := vc) (vw := vw) (J := J) hM (by rw [g4]; omega) (by rw [g4]; exact ⟨c1, by omega⟩)
    rw [eq_311]
    simp (disch := first | assumption | omega | (simp (disch := omega) only [vM_u, vS_u]; first | assumption | omega)) only [hK, hL, hR, hI, hN, sI, hSp, hC, hW, li, lr, ↓cnd_a, ↓cnd_o, ↓cnd_n, ↓cnd_d, ↓z0, ↓z1, ↓z2, y0n, y1i, y2r, y0e, y1e, y2e, wl_0, wl_1, wl_2, wl_3, wl_4, wl_5, wl_6, wl_7, wl_8, wl_9, wl_10, wl_11, wl_12, wl_13, wl_14, wl_15, wl_16, wl_17, wl_18, wl_19, wl_20, wl_21, wl_22, wl_23, wl_24, wl_25, wl_26, wl_27, wl_28, wl_29, wl_30, wl_31, wl_32, wl_33, wl_34, wl_35, wl_36, wl_37, wl_38, wl_39, wl_40, wl_41, wl_42, wl_43, wl_44, wl_45, wl_46, wl_47, wl_48, wl_49, wl_50, wl_51, wl_52, wl_53, wl_54, wl_55, wl_56, wl_57, wl_58, wl_59, wl_60, wl_61, wl_62, wl_63, wl_64, wl_65, wl_66, wl_67, wl_68, wl_69, wl_70, wl_71, wl_72, wl_73, wl_74, wl_75, wl_76, wl_77, wl_78, wl_79, wl_80, wl_81, wl_82, wl_83, wl_84, wl_85, wl_86, wl_87, wl_88, wl_89, wl_90, wl_91, wl_92, wl_93, wl_94, wl_95, wl_96, wl_97, wl_98, wl_99, wl_100, wl_101, wl_102, wl_103, wl_104, wl_105, wl_106, wl_107, wl_108, wl_109, wl_110, wl_111, wl_112, wl_113, wl_114, wl_115, wl_116, wl_117, wl_118, wl_119, wl_120, wl_121, wl_122, wl_123, wl_124, wl_125, wl_126, wl_127, wl_128, wl_129, wl_130, wl_159, wl_160, wl_200, wl_232, wl_255, wl_256, wl_300, wl_359, wl_360, wl_400, wl_592, wl_992, wl_999, wl_1000, wl_1024, wl_3456, wl_6512, wl_7104, wl_10000, wl_11264, wl_12345, wl_32767, wl_1000000000, wl_1103515245, wl_2000000000, w_add, w_sub, w_mul, w_neg, w_lt, w_le, w_eq, w_cl, w_in, w_nat, w_max2, w_min2, w_abs2, iltT, iltF, ileT, ileF, ieqT, ieqF, bv_01, bft, bv_0, bv_1, bv_t, bv_f, cond_true, cond_false, Bool.not_true, Bool.not_false, if_true, if_false, true_or, or_true, true_and, and_true, ↓reduceIte, decide_true, decide_false, reduceCtorEq, u2_s, u2_o, u2_k, u2_u2, Bool.true_or, Bool.or_true, Bool.false_or, Bool.or_false, Bool.and_true, Bool.true_and, Bool.and_false, Bool.false_and, eq_self, not_true_eq_false, not_false_eq_true, and_self, and_true, true_and, false_and, and_false, w_dv, dvm, MSH_e hM, s]
end OPT
