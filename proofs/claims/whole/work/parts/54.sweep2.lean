/-! THE CLASS: a sweep whole -/
def gSy (ss : List Int) (ln p h f sk th we hi pa : Int) : Int → Int := syA ss ln p h f hi pa sk th we
def gW (m : Int → Int) (ss : List Int) (ln p h f sk th we hi pa j : Int) : Int := wyF m h (gSy ss ln p h f sk th we hi pa 5) (aX (gSy ss ln p h f sk th we hi pa) f) (aY (gSy ss ln p h f sk th we hi pa) pa) (aS (gSy ss ln p h f sk th we hi pa) sk) j
def gA (ss : List Int) (ln p h f sk th we hi pa : Int) : Int := (2 * aS (gSy ss ln p h f sk th we hi pa) sk + 1) * (2 * aS (gSy ss ln p h f sk th we hi pa) sk + 1)
def swB (W : Int → Int → Int → Int) (A : Int → Int → Int) (hi pa : Int) (B : Int → Int × Int × Int) : Int → Int × Int × Int := fun j => if 0 ≤ j ∧ j < 10 then stB (odF (W hi pa) (A hi pa) j) hi pa (B j) else B j
def swW (m : Int → Int) (W : Int → Int → Int → Int) (A : Int → Int → Int) (hi pa : Int) (bw : Int) : Int := max bw (woF m (W hi pa) (A hi pa))
def swR (W : Int → Int → Int → Int) (hi pa : Int) (rc : Int32) : Int32 := rbF (W hi pa) 10 rc
theorem setB_0 {p : Int → Bool} : ∀ (n : Nat) (k : Int) (a : Int32), (∀ j, k ≤ j → j < k + n → p j = false) → setB p k n a = a
  | 0, _, _, _ => rfl
  | n + 1, k, a, h => by
    unfold setB
    rw [h k (Int.le_refl _) (by omega), cond_false]
    exact setB_0 n (k + 1) a (fun j h1 h2 => h j (by omega) (by omega))
/-- what a sweep may change -/
def FS (q : Nat) (I I' : Nat → Nat → Int32) : Prop := ∀ a k, (a < 273 ∨ 282 < a) → a ≠ q + 11 → (a = q → k < 6 ∨ 9 < k) → I' a k = I a k
theorem FS_rf {q : Nat} {I : Nat → Nat → Int32} : FS q I I := fun _ _ _ _ _ => rfl
theorem FS_tr {q : Nat} {I I' I'' : Nat → Nat → Int32} (h : FS q I I') (h2 : FS q I' I'') : FS q I I'' := fun a k x y z => (h2 a k x y z).trans (h a k x y z)
/-- all that a sweep's loops keep -/
def SI (K L : Nat → Nat) (R : Nat → Nat → Nat) (I : Nat → Nat → Int32) (q : Nat) (m : Int → Int) (ss : List Int) (ln p h f sk th we mk : Int) (B : Int → Int × Int × Int) (bw : Int) (rc : Int32) : Prop :=
  AimOK K L R I ss ln ∧ (I 274 0 = w p ∧ I 274 1 = w h ∧ I 274 2 = w f ∧ I 274 5 = w sk ∧ I 274 6 = w th ∧ I 274 7 = w we) ∧ OddsM I mk m ∧ vS I q = m ∧ Wd I q ∧ Swp I B bw rc
section SWEEP2
variable {vn vc vw : Nat} {K L : Nat → Nat} {R : Nat → Nat → Nat} {I : Nat → Nat → Int32} {J : Nat → Nat → Int64}
theorem lp_57i {d q : Nat} {m : Int → Int} {ss : List Int} {ln p h f hi sk th we nh : Int} (hX : XSH K L R) (hS : SHq K L R q) (hq : q + 11 < 273) (hq0 : 82 ≤ q) (hB : BD m) (hs : 0 ≤ sk ∧ sk ≤ 99) (hh : 0 ≤ h ∧ h < m 4) (hf : 0 ≤ f ∧ f ≤ 59) :
    ∀ (n : Nat) (k : Int) (I : Nat → Nat → Int32) (mk : Int) (B : Int → Int × Int × Int) (bw : Int) (rc : Int32), 0 ≤ k → k + n = 12 → mk + n < 100000000 → SI K L R I q m ss ln p h f sk th we mk B bw rc →
    ∃ I' mk', atv PR (d + 7) cd_57 32 [.ref 277, .ref q, .ref 273, .int (w nh), .int (w hi), .int (w k)] [] (((vn, vc, vw, K, L, R), I, J) : HS) = atv PR (d + 7) cd_57 27 [.ref 277, .ref q, .ref 273, .int (w nh), .int (w (hi + 1)), .int (w 12)] [] (((vn, vc, vw, K, L, R), I', J) : HS) ∧
      SI K L R I' q m ss ln p h f sk th we mk' (fP (swB (gW m ss ln p h f sk th we) (gA ss ln p h f sk th we) hi) k n B) (fP (swW m (gW m ss ln p h f sk th we) (gA ss ln p h f sk th we) hi) k n bw) (fP (swR (gW m ss ln p h f sk th we) hi) k n rc) ∧ (mk ≤ mk' ∧ mk' ≤ mk + n) ∧ FS q I I' := by
  intro n
  induction n with
  | zero =>
    intro k I mk B bw rc hk he hm hI
    refine ⟨I, mk, ?_, hI, by omega, FS_rf⟩
    rw [eq_57_32, show k = 12 by omega]
    simp (disch := first | assumption | omega | (simp (disch := omega) only [vM_u, vS_u]; first | assumption | omega)) only [hK, hL, hR, hI, hN, sI, hSp, hC, hW, li, lr, ↓cnd_a, ↓cnd_o, ↓cnd_n, ↓cnd_d, ↓z0, ↓z1, ↓z2, y0n, y1i, y2r, y0e, y1e, y2e, wl_0, wl_1, wl_2, wl_3, wl_4, wl_5, wl_6, wl_7, wl_8, wl_9, wl_10, wl_11, wl_12, wl_13, wl_14, wl_15, wl_16, wl_17, wl_18, wl_19, wl_20, wl_21, wl_22, wl_23, wl_24, wl_25, wl_26, wl_27, wl_28, wl_29, wl_30, wl_31, wl_32, wl_33, wl_34, wl_35, wl_36, wl_37, wl_38, wl_39, wl_40, wl_41, wl_42, wl_43, wl_44, wl_45, wl_46, wl_47, wl_48, wl_49, wl_50, wl_51, wl_52, wl_53, wl_54, wl_55, wl_56, wl_57, wl_58, wl_59, wl_60, wl_61, wl_62, wl_63, wl_64, wl_65, wl_66, wl_67, wl_68, wl_69, wl_70, wl_71, wl_72, wl_73, wl_74, wl_75, wl_76, wl_77, wl_78, wl_79, wl_80, wl_81, wl_82, wl_83, wl_84, wl_85, wl_86, wl_87, wl_88, wl_89, wl_90, wl_91, wl_92, wl_93, wl_94, wl_95, wl_96, wl_97, wl_98, wl_99, wl_100, wl_101, wl_102, wl_103, wl_104, wl_105, wl_106, wl_107, wl_108, wl_109, wl_110, wl_111, wl_112, wl_113, wl_114, wl_115, wl_116, wl_117, wl_118, wl_119, wl_120, wl_121, wl_122, wl_123, wl_124, wl_125, wl_126, wl_127, wl_128, wl_129, wl_130, wl_159, wl_160, wl_200, wl_232, wl_255, wl_256, wl_300, wl_359, wl_360, wl_400, wl_592, wl_992, wl_999, wl_1000, wl_1024, wl_3456, wl_6512, wl_7104, wl_10000, wl_11264, wl_12345, wl_32767, wl_1000000000, wl_1103515245, wl_2000000000, w_add, w_sub, w_mul, w_neg, w_lt, w_le, w_eq, w_cl, w_in, w_nat, w_max2, w_min2, w_abs2, iltT, iltF, ileT, ileF, ieqT, ieqF, bv_01, bft, bv_0, bv_1, bv_t, bv_f, cond_true, cond_false, Bool.not_true, Bool.not_false, if_true, if_false, true_or, or_true, true_and, and_true, ↓reduceIte, decide_true, decide_false, reduceCtorEq, u2_s, u2_o, u2_k, u2_u2, Bool.true_or, Bool.or_true, Bool.false_or, Bool.or_false, Bool.and_true, Bool.true_and, Bool.and_false, Bool.false_and, eq_self, not_true_eq_false, not_false_eq_true, and_self, and_true, true_and, false_and, and_false, w_dv, dvm]
  | succ n ih =>
    intro k I mk B bw rc hk he hm hI
    obtain ⟨iA, iF, iO, iv, iW, iS⟩ := hI
    obtain ⟨I1, e1, A1, f1⟩ := sp_2 (d := d + 2) (J := J) (vn := vn) (vc := vc) (vw := vw) (hi := hi) (pa := k) hX iA iF
    have v1 : vS I1 q = m := (vS_f (fun a b h1 h2 => f1 a b (by omega))).trans iv
    have w1 : Wd I1 q := Wd_f (fun a b h1 h2 => f1 a b (by omega)) iW
    obtain ⟨I2, mk2, e2, t2, t8, hmk2, O2, f2⟩ := sp_51 (d := d + 1) (J := J) (vn := vn) (vc := vc) (vw := vw) hX hS hq hq0 hB v1 w1 A1 hs hh ⟨hf, by omega⟩ (OddsM_f iO (fun a b z => f1 a b (by omega))) (by omega)
    have bS : 0 ≤ aS (gSy ss ln p h f sk th we hi k) sk ∧ aS (gSy ss ln p h f sk th we hi k) sk ≤ 4 := by unfold aS; omega
    have bA : 1 ≤ gA ss ln p h f sk th we hi k ∧ gA ss ln p h f sk th we hi k ≤ 81 := by
      unfold gA
      have := mul_bd (x := 2 * aS (gSy ss ln p h f sk th we hi k) sk + 1) (y := 2 * aS (gSy ss ln p h f sk th we hi k) sk + 1) (X := 9) (Y := 9) (by omega) (by omega)
      have h2 : 1 * 1 ≤ (2 * aS (gSy ss ln p h f sk th we hi k) sk + 1) * (2 * aS (gSy ss ln p h f sk th we hi k) sk + 1) := Int.mul_le_mul (by omega) (by omega) (by omega) (by omega)
      omega
    have T2 : TR I2 (gW m ss ln p h f sk th we hi k) (gA ss ln p h f sk th we hi k) := ⟨t2, t8, bA, fun j => wyF_b bS⟩
    have A2 : Amd K L R I2 ss ln p h f hi k sk th we := Amd_f A1 (fun a b z => f2 a b (by omega) (by omega) (by omega))
    have v2 : vS I2 q = m := by
      have : Fq q I1 I2 ∨ True := Or.inr trivial
      rw [← v1]
      have e : ∀ a b, (q < a ∧ a ≤ q + 10) → I2 a b = I1 a b := fun a b hab => f2 a b (by omega) (by omega) (by omega)
      have e2 : ∀ b, 9 < b → I2 q b = I1 q b := fun b hb => f2 q b (by omega) (by omega) (by omega)
      funext z
      unfold vS
      rw [e (q + 1) 2 (by omega), e (q + 3) 2 (by omega), e (q + 5) 2 (by omega), e (q + 7) 2 (by omega), e (q + 9) 2 (by omega), e2 11 (by omega), e2 18 (by omega), e (q + 2) _ (by omega), e (q + 4) _ (by omega), e (q + 6) _ (by omega), e (q + 8) _ (by omega), e (q + 10) _ (by omega)]
      by_cases c : 6 ≤ z ∧ z ≤ 11
      · rw [e2 (ix (z + 6)) (by unfold ix; omega)]
      · simp only [if_neg c]
    have w2 : Wd I2 q := by
      obtain ⟨h1, h2, h3, h4, h5⟩ := w1
      exact ⟨(f2 _ _ (by omega) (by omega) (by omega)).trans h1, (f2 _ _ (by omega) (by omega) (by omega)).trans h2, (f2 _ _ (by omega) (by omega) (by omega)).trans h3, (f2 _ _ (by omega) (by omega) (by omega)).trans h4, (f2 _ _ (by omega) (by omega) (by omega)).trans h5⟩
    have S2 : Swp I2 B bw rc := by
      obtain ⟨s1, s2, s3, s4, s5⟩ := iS
      have g : ∀ a b, (280 ≤ a ∧ a ≤ 282) ∨ (a = 277 ∧ 9 ≤ b) → I2 a b = I a b := fun a b z => (f2 a b (by omega) (by omega) (by omega)).trans (f1 a b (by omega))
      exact ⟨fun j hj => by rw [g 280 j (by omega), g 281 j (by omega), g 282 j (by omega)]; exact s1 j hj, (g _ _ (by omega)).trans s2, (g _ _ (by omega)).trans s3, s4, s5⟩
    have F2 : FS q I I2 := fun a b h1 h2 h3 => (f2 a b (by omega) h2 h3).trans (f1 a b (by omega))
    have fct : ∀ I' : Nat → Nat → Int32, (∀ b, I' 274 b = I2 274 b) → (I' 274 0 = w p ∧ I' 274 1 = w h ∧ I' 274 2 = w f ∧ I' 274 5 = w sk ∧ I' 274 6 = w th ∧ I' 274 7 = w we) := fun I' g => by
      obtain ⟨c0, c1, c2, c3, c4, c5, c6, c7⟩ := A2.2.2
      rw [g, g, g, g, g, g]
      exact ⟨c0, c1, c2, c5, c6, c7⟩
    rw [eq_57_32]
    cases hc : cnC m h (syA ss ln p h f hi k sk th we 5) (aX (syA ss ln p h f hi k sk th we) f) (aY (syA ss ln p h f hi k sk th we) k) (aS (syA ss ln p h f hi k sk th we) sk) with
    | false =>
      have hsy := syA_b A1 5
      have z : ∀ j, 0 ≤ j → gW m ss ln p h f sk th we hi k j = 0 := fun j hj => wyF_0 hB hh hsy.1 bS.1 hc hj
      have zB : swB (gW m ss ln p h f sk th we) (gA ss ln p h f sk th we) hi k B = B := by
        funext j
        unfold swB
        split
        · unfold stB odF
          have := iS.2.2.2.1 j
          rw [z j (by omega), show (0 : Int) * 10000 / gA ss ln p h f sk th we hi k = 0 by simp, if_neg (by omega)]
        · rfl
      have zW : swW m (gW m ss ln p h f sk th we) (gA ss ln p h f sk th we) hi k bw = bw := by
        unfold swW woF
        rw [sm_0 _ _ (fun j h1 h2 => by rw [z j h1, Int.mul_zero]), show (0 : Int) * 100 / gA ss ln p h f sk th we hi k = 0 by simp]
        have := iS.2.2.2.2
        omega
      have zR : swR (gW m ss ln p h f sk th we) hi k rc = rc := setB_0 _ _ _ (fun j h1 h2 => by rw [z j h1]; rfl)
      obtain ⟨I3, mk3, e3, S3, hm3, f3⟩ := ih (k + 1) I2 mk2 B bw rc (by omega) (by omega) (by omega) ⟨A2.1, fct I2 (fun _ => rfl), O2, v2, w2, S2⟩
      refine ⟨I3, mk3, ?_, ?_, by omega, FS_tr F2 f3⟩
      · rw [hc] at e2
        simp (disch := first | assumption | omega | (simp (disch := omega) only [vM_u, vS_u]; first | assumption | omega)) only [hK, hL, hR, hI, hN, sI, hSp, hC, hW, li, lr, ↓cnd_a, ↓cnd_o, ↓cnd_n, ↓cnd_d, ↓z0, ↓z1, ↓z2, y0n, y1i, y2r, y0e, y1e, y2e, wl_0, wl_1, wl_2, wl_3, wl_4, wl_5, wl_6, wl_7, wl_8, wl_9, wl_10, wl_11, wl_12, wl_13, wl_14, wl_15, wl_16, wl_17, wl_18, wl_19, wl_20, wl_21, wl_22, wl_23, wl_24, wl_25, wl_26, wl_27, wl_28, wl_29, wl_30, wl_31, wl_32, wl_33, wl_34, wl_35, wl_36, wl_37, wl_38, wl_39, wl_40, wl_41, wl_42, wl_43, wl_44, wl_45, wl_46, wl_47, wl_48, wl_49, wl_50, wl_51, wl_52, wl_53, wl_54, wl_55, wl_56, wl_57, wl_58, wl_59, wl_60, wl_61, wl_62, wl_63, wl_64, wl_65, wl_66, wl_67, wl_68, wl_69, wl_70, wl_71, wl_72, wl_73, wl_74, wl_75, wl_76, wl_77, wl_78, wl_79, wl_80, wl_81, wl_82, wl_83, wl_84, wl_85, wl_86, wl_87, wl_88, wl_89, wl_90, wl_91, wl_92, wl_93, wl_94, wl_95, wl_96, wl_97, wl_98, wl_99, wl_100, wl_101, wl_102, wl_103, wl_104, wl_105, wl_106, wl_107, wl_108, wl_109, wl_110, wl_111, wl_112, wl_113, wl_114, wl_115, wl_116, wl_117, wl_118, wl_119, wl_120, wl_121, wl_122, wl_123, wl_124, wl_125, wl_126, wl_127, wl_128, wl_129, wl_130, wl_159, wl_160, wl_200, wl_232, wl_255, wl_256, wl_300, wl_359, wl_360, wl_400, wl_592, wl_992, wl_999, wl_1000, wl_1024, wl_3456, wl_6512, wl_7104, wl_10000, wl_11264, wl_12345, wl_32767, wl_1000000000, wl_1103515245, wl_2000000000, w_add, w_sub, w_mul, w_neg, w_lt, w_le, w_eq, w_cl, w_in, w_nat, w_max2, w_min2, w_abs2, iltT, iltF, ileT, ileF, ieqT, ieqF, bv_01, bft, bv_0, bv_1, bv_t, bv_f, cond_true, cond_false, Bool.not_true, Bool.not_false, if_true, if_false, true_or, or_true, true_and, and_true, ↓reduceIte, decide_true, decide_false, reduceCtorEq, u2_s, u2_o, u2_k, u2_u2, Bool.true_or, Bool.or_true, Bool.false_or, Bool.or_false, Bool.and_true, Bool.true_and, Bool.and_false, Bool.false_and, eq_self, not_true_eq_false, not_false_eq_true, and_self, and_true, true_and, false_and, and_false, w_dv, dvm, XSH_e hX, e1, e2]
        exact e3
      · show SI K L R I3 q m ss ln p h f sk th we mk3 (fP _ (k + 1) n (swB _ _ hi k B)) (fP _ (k + 1) n (swW m _ _ hi k bw)) (fP _ (k + 1) n (swR _ hi k rc))
        rw [zB, zW, zR]
        exact S3
    | true =>
      obtain ⟨I3, e3, S3, f3⟩ := sp_58 (d := d + 4) (J := J) (vn := vn) (vc := vc) (vw := vw) (hi := hi) (pa := k) hX hS w2 v2 hB T2 S2
      have A3 : Amd K L R I3 ss ln p h f hi k sk th we := Amd_f A2 (fun a b z => f3 a b (by omega) (by omega))
      obtain ⟨I4, mk4, e4, S4, hm4, f4⟩ := ih (k + 1) I3 mk2 _ _ _ (by omega) (by omega) (by omega) ⟨A3.1, fct I3 (fun b => f3 274 b (by omega) (by omega)), OddsM_f O2 (fun a b z => f3 a b (by omega) (by omega)), (vS_f (fun a b h1 h2 => f3 a b (by omega) (by omega))).trans v2, Wd_f (fun a b h1 h2 => f3 a b (by omega) (by omega)) w2, S3⟩
      refine ⟨I4, mk4, ?_, S4, by omega, FS_tr F2 (FS_tr (fun a b h1 h2 h3 => f3 a b (by omega) (by omega)) f4)⟩
      rw [hc] at e2
      simp (disch := first | assumption | omega | (simp (disch := omega) only [vM_u, vS_u]; first | assumption | omega)) only [hK, hL, hR, hI, hN, sI, hSp, hC, hW, li, lr, ↓cnd_a, ↓cnd_o, ↓cnd_n, ↓cnd_d, ↓z0, ↓z1, ↓z2, y0n, y1i, y2r, y0e, y1e, y2e, wl_0, wl_1, wl_2, wl_3, wl_4, wl_5, wl_6, wl_7, wl_8, wl_9, wl_10, wl_11, wl_12, wl_13, wl_14, wl_15, wl_16, wl_17, wl_18, wl_19, wl_20, wl_21, wl_22, wl_23, wl_24, wl_25, wl_26, wl_27, wl_28, wl_29, wl_30, wl_31, wl_32, wl_33, wl_34, wl_35, wl_36, wl_37, wl_38, wl_39, wl_40, wl_41, wl_42, wl_43, wl_44, wl_45, wl_46, wl_47, wl_48, wl_49, wl_50, wl_51, wl_52, wl_53, wl_54, wl_55, wl_56, wl_57, wl_58, wl_59, wl_60, wl_61, wl_62, wl_63, wl_64, wl_65, wl_66, wl_67, wl_68, wl_69, wl_70, wl_71, wl_72, wl_73, wl_74, wl_75, wl_76, wl_77, wl_78, wl_79, wl_80, wl_81, wl_82, wl_83, wl_84, wl_85, wl_86, wl_87, wl_88, wl_89, wl_90, wl_91, wl_92, wl_93, wl_94, wl_95, wl_96, wl_97, wl_98, wl_99, wl_100, wl_101, wl_102, wl_103, wl_104, wl_105, wl_106, wl_107, wl_108, wl_109, wl_110, wl_111, wl_112, wl_113, wl_114, wl_115, wl_116, wl_117, wl_118, wl_119, wl_120, wl_121, wl_122, wl_123, wl_124, wl_125, wl_126, wl_127, wl_128, wl_129, wl_130, wl_159, wl_160, wl_200, wl_232, wl_255, wl_256, wl_300, wl_359, wl_360, wl_400, wl_592, wl_992, wl_999, wl_1000, wl_1024, wl_3456, wl_6512, wl_7104, wl_10000, wl_11264, wl_12345, wl_32767, wl_1000000000, wl_1103515245, wl_2000000000, w_add, w_sub, w_mul, w_neg, w_lt, w_le, w_eq, w_cl, w_in, w_nat, w_max2, w_min2, w_abs2, iltT, iltF, ileT, ileF, ieqT, ieqF, bv_01, bft, bv_0, bv_1, bv_t, bv_f, cond_true, cond_false, Bool.not_true, Bool.not_false, if_true, if_false, true_or, or_true, true_and, and_true, ↓reduceIte, decide_true, decide_false, reduceCtorEq, u2_s, u2_o, u2_k, u2_u2, Bool.true_or, Bool.or_true, Bool.false_or, Bool.or_false, Bool.and_true, Bool.true_and, Bool.and_false, Bool.false_and, eq_self, not_true_eq_false, not_false_eq_true, and_self, and_true, true_and, false_and, and_false, w_dv, dvm, XSH_e hX, e1, e2, e3]
      exact e4
theorem lp_57o {d q : Nat} {m : Int → Int} {ss : List Int} {ln p h f sk th we nh : Int} (hX : XSH K L R) (hS : SHq K L R q) (hq : q + 11 < 273) (hq0 : 82 ≤ q) (hB : BD m) (hs : 0 ≤ sk ∧ sk ≤ 99) (hh : 0 ≤ h ∧ h < m 4) (hf : 0 ≤ f ∧ f ≤ 59) (hnh : nh ≤ 6) :
    ∀ (n : Nat) (k : Int) (I : Nat → Nat → Int32) (mk : Int) (B : Int → Int × Int × Int) (bw : Int) (rc : Int32) (w5 : Value), 0 ≤ k → k + n = nh → mk + 12 * n < 100000000 → SI K L R I q m ss ln p h f sk th we mk B bw rc →
    ∃ I' mk', atv PR (d + 7) cd_57 27 [.ref 277, .ref q, .ref 273, .int (w nh), .int (w k), w5] [] (((vn, vc, vw, K, L, R), I, J) : HS) = some (.inl none, (((vn, vc, vw, K, L, R), I', J) : HS)) ∧
      SI K L R I' q m ss ln p h f sk th we mk' (fP (fun hi => fP (swB (gW m ss ln p h f sk th we) (gA ss ln p h f sk th we) hi) 0 12) k n B) (fP (fun hi => fP (swW m (gW m ss ln p h f sk th we) (gA ss ln p h f sk th we) hi) 0 12) k n bw) (fP (fun hi => fP (swR (gW m ss ln p h f sk th we) hi) 0 12) k n rc) ∧ (mk ≤ mk' ∧ mk' ≤ mk + 12 * n) ∧ FS q I I' := by
  intro n
  induction n with
  | zero =>
    intro k I mk B bw rc w5 hk he hm hI
    refine ⟨I, mk, ?_, hI, by omega, FS_rf⟩
    rw [eq_57_27]
    simp (disch := first | assumption | omega | (simp (disch := omega) only [vM_u, vS_u]; first | assumption | omega)) only [hK, hL, hR, hI, hN, sI, hSp, hC, hW, li, lr, ↓cnd_a, ↓cnd_o, ↓cnd_n, ↓cnd_d, ↓z0, ↓z1, ↓z2, y0n, y1i, y2r, y0e, y1e, y2e, wl_0, wl_1, wl_2, wl_3, wl_4, wl_5, wl_6, wl_7, wl_8, wl_9, wl_10, wl_11, wl_12, wl_13, wl_14, wl_15, wl_16, wl_17, wl_18, wl_19, wl_20, wl_21, wl_22, wl_23, wl_24, wl_25, wl_26, wl_27, wl_28, wl_29, wl_30, wl_31, wl_32, wl_33, wl_34, wl_35, wl_36, wl_37, wl_38, wl_39, wl_40, wl_41, wl_42, wl_43, wl_44, wl_45, wl_46, wl_47, wl_48, wl_49, wl_50, wl_51, wl_52, wl_53, wl_54, wl_55, wl_56, wl_57, wl_58, wl_59, wl_60, wl_61, wl_62, wl_63, wl_64, wl_65, wl_66, wl_67, wl_68, wl_69, wl_70, wl_71, wl_72, wl_73, wl_74, wl_75, wl_76, wl_77, wl_78, wl_79, wl_80, wl_81, wl_82, wl_83, wl_84, wl_85, wl_86, wl_87, wl_88, wl_89, wl_90, wl_91, wl_92, wl_93, wl_94, wl_95, wl_96, wl_97, wl_98, wl_99, wl_100, wl_101, wl_102, wl_103, wl_104, wl_105, wl_106, wl_107, wl_108, wl_109, wl_110, wl_111, wl_112, wl_113, wl_114, wl_115, wl_116, wl_117, wl_118, wl_119, wl_120, wl_121, wl_122, wl_123, wl_124, wl_125, wl_126, wl_127, wl_128, wl_129, wl_130, wl_159, wl_160, wl_200, wl_232, wl_255, wl_256, wl_300, wl_359, wl_360, wl_400, wl_592, wl_992, wl_999, wl_1000, wl_1024, wl_3456, wl_6512, wl_7104, wl_10000, wl_11264, wl_12345, wl_32767, wl_1000000000, wl_1103515245, wl_2000000000, w_add, w_sub, w_mul, w_neg, w_lt, w_le, w_eq, w_cl, w_in, w_nat, w_max2, w_min2, w_abs2, iltT, iltF, ileT, ileF, ieqT, ieqF, bv_01, bft, bv_0, bv_1, bv_t, bv_f, cond_true, cond_false, Bool.not_true, Bool.not_false, if_true, if_false, true_or, or_true, true_and, and_true, ↓reduceIte, decide_true, decide_false, reduceCtorEq, u2_s, u2_o, u2_k, u2_u2, Bool.true_or, Bool.or_true, Bool.false_or, Bool.or_false, Bool.and_true, Bool.true_and, Bool.and_false, Bool.false_and, eq_self, not_true_eq_false, not_false_eq_true, and_self, and_true, true_and, false_and, and_false, w_dv, dvm]
  | succ n ih =>
    intro k I mk B bw rc w5 hk he hm hI
    obtain ⟨I1, mk1, e1, S1, hm1, f1⟩ := lp_57i (d := d) (J := J) (vn := vn) (vc := vc) (vw := vw) (nh := nh) (hi := k) hX hS hq hq0 hB hs hh hf 12 0 I mk B bw rc (by omega) (by omega) (by omega) hI
    obtain ⟨I2, mk2, e2, S2, hm2, f2⟩ := ih (k + 1) I1 mk1 _ _ _ (.int (w 12)) (by omega) (by omega) (by omega) S1
    refine ⟨I2, mk2, ?_, S2, by omega, FS_tr f1 f2⟩
    rw [eq_57_27]
    simp (disch := first | assumption | omega | (simp (disch := omega) only [vM_u, vS_u]; first | assumption | omega)) only [hK, hL, hR, hI, hN, sI, hSp, hC, hW, li, lr, ↓cnd_a, ↓cnd_o, ↓cnd_n, ↓cnd_d, ↓z0, ↓z1, ↓z2, y0n, y1i, y2r, y0e, y1e, y2e, wl_0, wl_1, wl_2, wl_3, wl_4, wl_5, wl_6, wl_7, wl_8, wl_9, wl_10, wl_11, wl_12, wl_13, wl_14, wl_15, wl_16, wl_17, wl_18, wl_19, wl_20, wl_21, wl_22, wl_23, wl_24, wl_25, wl_26, wl_27, wl_28, wl_29, wl_30, wl_31, wl_32, wl_33, wl_34, wl_35, wl_36, wl_37, wl_38, wl_39, wl_40, wl_41, wl_42, wl_43, wl_44, wl_45, wl_46, wl_47, wl_48, wl_49, wl_50, wl_51, wl_52, wl_53, wl_54, wl_55, wl_56, wl_57, wl_58, wl_59, wl_60, wl_61, wl_62, wl_63, wl_64, wl_65, wl_66, wl_67, wl_68, wl_69, wl_70, wl_71, wl_72, wl_73, wl_74, wl_75, wl_76, wl_77, wl_78, wl_79, wl_80, wl_81, wl_82, wl_83, wl_84, wl_85, wl_86, wl_87, wl_88, wl_89, wl_90, wl_91, wl_92, wl_93, wl_94, wl_95, wl_96, wl_97, wl_98, wl_99, wl_100, wl_101, wl_102, wl_103, wl_104, wl_105, wl_106, wl_107, wl_108, wl_109, wl_110, wl_111, wl_112, wl_113, wl_114, wl_115, wl_116, wl_117, wl_118, wl_119, wl_120, wl_121, wl_122, wl_123, wl_124, wl_125, wl_126, wl_127, wl_128, wl_129, wl_130, wl_159, wl_160, wl_200, wl_232, wl_255, wl_256, wl_300, wl_359, wl_360, wl_400, wl_592, wl_992, wl_999, wl_1000, wl_1024, wl_3456, wl_6512, wl_7104, wl_10000, wl_11264, wl_12345, wl_32767, wl_1000000000, wl_1103515245, wl_2000000000, w_add, w_sub, w_mul, w_neg, w_lt, w_le, w_eq, w_cl, w_in, w_nat, w_max2, w_min2, w_abs2, iltT, iltF, ileT, ileF, ieqT, ieqF, bv_01, bft, bv_0, bv_1, bv_t, bv_f, cond_true, cond_false, Bool.not_true, Bool.not_false, if_true, if_false, true_or, or_true, true_and, and_true, ↓reduceIte, decide_true, decide_false, reduceCtorEq, u2_s, u2_o, u2_k, u2_u2, Bool.true_or, Bool.or_true, Bool.false_or, Bool.or_false, Bool.and_true, Bool.true_and, Bool.and_false, Bool.false_and, eq_self, not_true_eq_false, not_false_eq_true, and_self, and_true, true_and, false_and, and_false, w_dv, dvm, e1]
    exact e2
end SWEEP2
