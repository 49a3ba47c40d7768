/-! THE CLASS: heights that the law doesn't mind -/
theorem setB_or {p : Int → Bool} : ∀ (n : Nat) (k : Int) (a : Int32), setB p k n a = a ||| setB p k n (w 0)
  | 0, _, a => (or_0 a).symm
  | n + 1, k, a => by
    show setB p (k + 1) n (cond (p k) (a ||| bit k) a) = a ||| setB p (k + 1) n (cond (p k) (w 0 ||| bit k) (w 0))
    rw [setB_or n (k + 1) (cond (p k) (a ||| bit k) a), setB_or n (k + 1) (cond (p k) (w 0 ||| bit k) (w 0))]
    cases p k
    · simp only [cond_false]
      rw [show w 0 = (0 : Int32) from rfl, Int32.zero_or]
    · simp only [cond_true]
      rw [show w 0 = (0 : Int32) from rfl, Int32.zero_or, Int32.or_assoc]
theorem fP_c {α : Type} {g g' : Int → α → α} : ∀ (n : Nat) (k : Int) (a : α), (∀ j a, k ≤ j → j < k + n → g j a = g' j a) → fP g k n a = fP g' k n a
  | 0, _, _, _ => rfl
  | n + 1, k, a, h => by
    show fP g (k + 1) n (g k a) = fP g' (k + 1) n (g' k a)
    rw [h k a (Int.le_refl _) (by omega), fP_c n (k + 1) _ (fun j a h1 h2 => h j a (by omega) (by omega))]
theorem fP_i {α : Type} {g : Int → α → α} {a : α} : ∀ (n : Nat) (k : Int), (∀ j, k ≤ j → j < k + n → g j a = a) → fP g k n a = a
  | 0, _, _ => rfl
  | n + 1, k, h => by
    show fP g (k + 1) n (g k a) = a
    rw [h k (Int.le_refl _) (by omega), fP_i n (k + 1) (fun j h1 h2 => h j (by omega) (by omega))]
/-- a max over a row: at least each, and at least what was -/
theorem fP_max {f : Int → Int} : ∀ (n : Nat) (k : Int) (a : Int), a ≤ fP (fun j a => max a (f j)) k n a ∧ ∀ j, k ≤ j → j < k + n → f j ≤ fP (fun j a => max a (f j)) k n a
  | 0, _, a => ⟨Int.le_refl a, fun j h1 h2 => by omega⟩
  | n + 1, k, a => by
    obtain ⟨h1, h2⟩ := fP_max (f := f) n (k + 1) (max a (f k))
    refine ⟨by show a ≤ fP _ (k + 1) n (max a (f k)); omega, fun j j1 j2 => ?_⟩
    show f j ≤ fP _ (k + 1) n (max a (f k))
    by_cases c : j = k
    · subst c; omega
    · exact h2 j (by omega) (by omega)
theorem or_idem (a b : Int32) : a ||| b ||| b = a ||| b := by rw [Int32.or_assoc, Int32.or_self]
theorem or_swap (a b c : Int32) : a ||| b ||| c = a ||| c ||| b := by rw [Int32.or_assoc, Int32.or_comm b c, ← Int32.or_assoc]
/-- an or over a row: each is in it -/
theorem fP_or {f : Int → Int32} : ∀ (n : Nat) (k : Int) (a : Int32), (∀ b, a ||| b = a → fP (fun j a => a ||| f j) k n a ||| b = fP (fun j a => a ||| f j) k n a) ∧ ∀ j, k ≤ j → j < k + n → fP (fun j a => a ||| f j) k n a ||| f j = fP (fun j a => a ||| f j) k n a
  | 0, _, a => ⟨fun _ h => h, fun j h1 h2 => by omega⟩
  | n + 1, k, a => by
    obtain ⟨h1, h2⟩ := fP_or (f := f) n (k + 1) (a ||| f k)
    refine ⟨fun b hb => h1 b (by rw [or_swap, hb]), fun j j1 j2 => ?_⟩
    by_cases c : j = k
    · subst c; exact h1 _ (or_idem _ _)
    · exact h2 j (by omega) (by omega)
/-- the best over a row is at least each -/
theorem fP_stB {o : Int → Int} {hi : Int} : ∀ (n : Nat) (k : Int) (t : Int × Int × Int), t.1 ≤ (fP (fun pa => stB (o pa) hi pa) k n t).1 ∧ ∀ j, k ≤ j → j < k + n → o j ≤ (fP (fun pa => stB (o pa) hi pa) k n t).1
  | 0, _, t => ⟨Int.le_refl _, fun j h1 h2 => by omega⟩
  | n + 1, k, t => by
    obtain ⟨h1, h2⟩ := fP_stB (o := o) (hi := hi) n (k + 1) (stB (o k) hi k t)
    have h3 : t.1 ≤ (stB (o k) hi k t).1 ∧ o k ≤ (stB (o k) hi k t).1 := by
      unfold stB
      split
      · dsimp only; omega
      · omega
    refine ⟨Int.le_trans h3.1 h1, fun j j1 j2 => ?_⟩
    by_cases c : j = k
    · subst c; exact Int.le_trans h3.2 h1
    · exact h2 j (by omega) (by omega)
/-- swB acts on each block by itself -/
theorem fP_swB {W : Int → Int → Int → Int} {A : Int → Int → Int} {hi : Int} : ∀ (n : Nat) (k : Int) (B : Int → Int × Int × Int) (j : Int), fP (swB W A hi) k n B j = if 0 ≤ j ∧ j < 10 then fP (fun pa => stB (odF (W hi pa) (A hi pa) j) hi pa) k n (B j) else B j
  | 0, _, B, j => by show B j = if _ then B j else B j; split <;> rfl
  | n + 1, k, B, j => by
    show fP (swB W A hi) (k + 1) n (swB W A hi k B) j = _
    rw [fP_swB n (k + 1)]
    unfold swB
    split
    · rfl
    · rfl
/-- the same for all heights: the first alone tells -/
theorem sw_same {m : Int → Int} {W : Int → Int → Int → Int} {A : Int → Int → Int} (hW : ∀ hi pa, W hi pa = W 0 pa) (hA : ∀ hi pa, A hi pa = A 0 pa) (B : Int → Int × Int × Int) (bw : Int) (rc : Int32) :
    fP (fun hi => fP (swB W A hi) 0 12) 0 6 B = fP (fun hi => fP (swB W A hi) 0 12) 0 1 B ∧ fP (fun hi => fP (swW m W A hi) 0 12) 0 6 bw = fP (fun hi => fP (swW m W A hi) 0 12) 0 1 bw ∧ fP (fun hi => fP (swR W hi) 0 12) 0 6 rc = fP (fun hi => fP (swR W hi) 0 12) 0 1 rc := by
  refine ⟨?_, ?_, ?_⟩
  · show fP (fun hi => fP (swB W A hi) 0 12) 1 5 (fP (swB W A 0) 0 12 B) = fP (swB W A 0) 0 12 B
    refine fP_i 5 1 fun hi h1 h2 => ?_
    refine fP_i 12 0 fun pa p1 p2 => ?_
    funext j
    show (if 0 ≤ j ∧ j < 10 then stB (odF (W hi pa) (A hi pa) j) hi pa (fP (swB W A 0) 0 12 B j) else fP (swB W A 0) 0 12 B j) = fP (swB W A 0) 0 12 B j
    split
    · rename_i c
      rw [fP_swB, if_pos c, hW hi pa, hA hi pa]
      have := (fP_stB (o := fun pa => odF (W 0 pa) (A 0 pa) j) (hi := 0) 12 0 (B j)).2 pa p1 p2
      unfold stB
      rw [if_neg]
      exact Int.not_lt.mpr this
    · rfl
  · show fP (fun hi => fP (swW m W A hi) 0 12) 1 5 (fP (swW m W A 0) 0 12 bw) = fP (swW m W A 0) 0 12 bw
    refine fP_i 5 1 fun hi h1 h2 => ?_
    refine fP_i 12 0 fun pa p1 p2 => ?_
    have := (fP_max (f := fun pa => woF m (W 0 pa) (A 0 pa)) 12 0 bw).2 pa p1 p2
    show max _ (woF m (W hi pa) (A hi pa)) = _
    rw [hW hi pa, hA hi pa]
    exact Int.max_eq_left this
  · have e : ∀ hi, swR W hi = fun pa a => a ||| setB (fun j => decide (0 < W 0 pa j)) 0 10 (w 0) := fun hi => by
      funext pa a
      unfold swR rbF
      rw [setB_or, hW hi pa]
    show fP (fun hi => fP (swR W hi) 0 12) 1 5 (fP (swR W 0) 0 12 rc) = fP (swR W 0) 0 12 rc
    refine fP_i 5 1 fun hi h1 h2 => ?_
    refine fP_i 12 0 fun pa p1 p2 => ?_
    rw [e hi, e 0]
    exact (fP_or (f := fun pa => setB (fun j => decide (0 < W 0 pa j)) 0 10 (w 0)) 12 0 rc).2 pa p1 p2
/-- the sweep's answer: all heights, all paces, from nothing -/
def swBest (W : Int → Int → Int → Int) (A : Int → Int → Int) : Int → Int × Int × Int := fP (fun hi => fP (swB W A hi) 0 12) 0 6 (fun _ => (0, 0, 0))
def swWo (m : Int → Int) (W : Int → Int → Int → Int) (A : Int → Int → Int) : Int := fP (fun hi => fP (swW m W A hi) 0 12) 0 6 0
def swRc (W : Int → Int → Int → Int) : Int32 := fP (fun hi => fP (swR W hi) 0 12) 0 6 (w 0)
section SWEEP3
variable {vn vc vw : Nat} {K L : Nat → Nat} {R : Nat → Nat → Nat} {I : Nat → Nat → Int32} {J : Nat → Nat → Int64}
theorem sp_57 {d q : Nat} {m : Int → Int} {ss : List Int} {ln p h f sk th we mk : Int} (hX : XSH K L R) (hS : SHq K L R q) (hq : q + 11 < 273) (hq0 : 82 ≤ q) (hB : BD m) (hs : 0 ≤ sk ∧ sk ≤ 99) (hh : 0 ≤ h ∧ h < m 4) (hf : 0 ≤ f ∧ f ≤ 59) (hA : AimOK K L R I ss ln) (hF : I 274 0 = w p ∧ I 274 1 = w h ∧ I 274 2 = w f ∧ I 274 5 = w sk ∧ I 274 6 = w th ∧ I 274 7 = w we) (hO : OddsM I mk m) (hv : vS I q = m) (hWd : Wd I q) (hmk : mk + 100 < 100000000) :
    ∃ I' mk', ev PR (d + 8) 57 [.ref 277, .ref q, .ref 273] (((vn, vc, vw, K, L, R), I, J) : HS) = some (.inl none, (((vn, vc, vw, K, L, R), I', J) : HS)) ∧ SI K L R I' q m ss ln p h f sk th we mk' (swBest (gW m ss ln p h f sk th we) (gA ss ln p h f sk th we)) (swWo m (gW m ss ln p h f sk th we) (gA ss ln p h f sk th we)) (swRc (gW m ss ln p h f sk th we)) ∧ (mk ≤ mk' ∧ mk' ≤ mk + 72) ∧ FS q I I' := by
  obtain ⟨I1, e1, g1, f1⟩ := sp_337 (d := d + 6) (I := I) (J := J) (vn := vn) (vc := vc) (vw := vw) (R := R) (K := K) (L := L) (v := w 0) (a := 280) (n := 10) (by simp only [XSH_e hX]) (by simp only [XSH_e hX]) (by omega)
  obtain ⟨I2, e2, g2, f2⟩ := sp_337 (d := d + 6) (I := I1) (J := J) (vn := vn) (vc := vc) (vw := vw) (R := R) (K := K) (L := L) (v := w 0) (a := 281) (n := 10) (by simp only [XSH_e hX]) (by simp only [XSH_e hX]) (by omega)
  obtain ⟨I3, e3, g3, f3⟩ := sp_337 (d := d + 6) (I := I2) (J := J) (vn := vn) (vc := vc) (vw := vw) (R := R) (K := K) (L := L) (v := w 0) (a := 282) (n := 10) (by simp only [XSH_e hX]) (by simp only [XSH_e hX]) (by omega)
  obtain ⟨I4, hI4⟩ : ∃ I4, u2 (u2 I3 277 9 (w 0)) 277 10 (w 0) = I4 := ⟨_, rfl⟩
  have q4 : ∀ a k, (a < 280 ∨ 282 < a) → ¬(a = 277 ∧ (k = 9 ∨ k = 10)) → I4 a k = I a k := fun a k h1 h2 => by
    rw [← hI4, u2_r, if_neg (by omega), u2_r, if_neg (by omega), f3 a k (by omega), f2 a k (by omega), f1 a k (by omega)]
  have A4 : AimOK K L R I4 ss ln := AimOK_f hA (fun a k z => q4 a k (by omega) (by omega))
  have W4 : Swp I4 (fun _ => (0, 0, 0)) 0 (w 0) := by
    refine ⟨fun j hj => ⟨?_, ?_, ?_⟩, ?_, ?_, fun j => by dsimp only; omega, by omega⟩
    · rw [← hI4, u2_o _ _ _ _ (by decide), u2_o _ _ _ _ (by decide), f3 _ _ (by decide), f2 _ _ (by decide)]; exact g1 j hj
    · rw [← hI4, u2_o _ _ _ _ (by decide), u2_o _ _ _ _ (by decide), f3 _ _ (by decide)]; exact g2 j hj
    · rw [← hI4, u2_o _ _ _ _ (by decide), u2_o _ _ _ _ (by decide)]; exact g3 j hj
    · rw [← hI4, u2_k _ _ _ _ (by decide), u2_s]
    · rw [← hI4, u2_s]
  have S4 : SI K L R I4 q m ss ln p h f sk th we mk (fun _ => (0, 0, 0)) 0 (w 0) := by
    obtain ⟨c0, c1, c2, c5, c6, c7⟩ := hF
    refine ⟨A4, ⟨?_, ?_, ?_, ?_, ?_, ?_⟩, OddsM_f hO (fun a k z => q4 a k (by omega) (by omega)), (vS_f (fun a k h1 h2 => q4 a k (by omega) (by omega))).trans hv, Wd_f (fun a k h1 h2 => q4 a k (by omega) (by omega)) hWd, W4⟩
    · rw [q4 _ _ (by omega) (by omega)]; exact c0
    · rw [q4 _ _ (by omega) (by omega)]; exact c1
    · rw [q4 _ _ (by omega) (by omega)]; exact c2
    · rw [q4 _ _ (by omega) (by omega)]; exact c5
    · rw [q4 _ _ (by omega) (by omega)]; exact c6
    · rw [q4 _ _ (by omega) (by omega)]; exact c7
  have F4 : FS q I I4 := fun a k h1 h2 h3 => q4 a k (by omega) (by omega)
  have s4 := sp_4 (d := d + 5) (J := J) (vn := vn) (vc := vc) (vw := vw) hX A4
  rw [eq_57]
  by_cases c : (I4 (R 273 4) 2 >>> (w 3 &&& w 31)) &&& w 1 = w 1
  · obtain ⟨I5, mk5, e5, S5, hm5, f5⟩ := lp_57o (d := d) (J := J) (vn := vn) (vc := vc) (vw := vw) (nh := 6) hX hS hq hq0 hB hs hh hf (by omega) 6 0 I4 mk _ 0 (w 0) (.retAddr 0) (by omega) (by omega) (by omega) S4
    refine ⟨I5, mk5, ?_, S5, by omega, FS_tr F4 f5⟩
    rw [if_pos c] at s4
    simp (disch := first | assumption | omega | (simp (disch := omega) only [vM_u, vS_u]; first | assumption | omega)) only [hK, hL, hR, hI, hN, sI, hSp, hC, hW, li, lr, ↓cnd_a, ↓cnd_o, ↓cnd_n, ↓cnd_d, ↓z0, ↓z1, ↓z2, y0n, y1i, y2r, y0e, y1e, y2e, wl_0, wl_1, wl_2, wl_3, wl_4, wl_5, wl_6, wl_7, wl_8, wl_9, wl_10, wl_11, wl_12, wl_13, wl_14, wl_15, wl_16, wl_17, wl_18, wl_19, wl_20, wl_21, wl_22, wl_23, wl_24, wl_25, wl_26, wl_27, wl_28, wl_29, wl_30, wl_31, wl_32, wl_33, wl_34, wl_35, wl_36, wl_37, wl_38, wl_39, wl_40, wl_41, wl_42, wl_43, wl_44, wl_45, wl_46, wl_47, wl_48, wl_49, wl_50, wl_51, wl_52, wl_53, wl_54, wl_55, wl_56, wl_57, wl_58, wl_59, wl_60, wl_61, wl_62, wl_63, wl_64, wl_65, wl_66, wl_67, wl_68, wl_69, wl_70, wl_71, wl_72, wl_73, wl_74, wl_75, wl_76, wl_77, wl_78, wl_79, wl_80, wl_81, wl_82, wl_83, wl_84, wl_85, wl_86, wl_87, wl_88, wl_89, wl_90, wl_91, wl_92, wl_93, wl_94, wl_95, wl_96, wl_97, wl_98, wl_99, wl_100, wl_101, wl_102, wl_103, wl_104, wl_105, wl_106, wl_107, wl_108, wl_109, wl_110, wl_111, wl_112, wl_113, wl_114, wl_115, wl_116, wl_117, wl_118, wl_119, wl_120, wl_121, wl_122, wl_123, wl_124, wl_125, wl_126, wl_127, wl_128, wl_129, wl_130, wl_159, wl_160, wl_200, wl_232, wl_255, wl_256, wl_300, wl_359, wl_360, wl_400, wl_592, wl_992, wl_999, wl_1000, wl_1024, wl_3456, wl_6512, wl_7104, wl_10000, wl_11264, wl_12345, wl_32767, wl_1000000000, wl_1103515245, wl_2000000000, w_add, w_sub, w_mul, w_neg, w_lt, w_le, w_eq, w_cl, w_in, w_nat, w_max2, w_min2, w_abs2, iltT, iltF, ileT, ileF, ieqT, ieqF, bv_01, bft, bv_0, bv_1, bv_t, bv_f, cond_true, cond_false, Bool.not_true, Bool.not_false, if_true, if_false, true_or, or_true, true_and, and_true, ↓reduceIte, decide_true, decide_false, reduceCtorEq, u2_s, u2_o, u2_k, u2_u2, Bool.true_or, Bool.or_true, Bool.false_or, Bool.or_false, Bool.and_true, Bool.true_and, Bool.and_false, Bool.false_and, eq_self, not_true_eq_false, not_false_eq_true, and_self, and_true, true_and, false_and, and_false, w_dv, dvm, XSH_e hX, e1, e2, e3, hI4, s4]
    exact e5
  · obtain ⟨I5, mk5, e5, S5, hm5, f5⟩ := lp_57o (d := d) (J := J) (vn := vn) (vc := vc) (vw := vw) (nh := 1) hX hS hq hq0 hB hs hh hf (by omega) 1 0 I4 mk _ 0 (w 0) (.retAddr 0) (by omega) (by omega) (by omega) S4
    have hsy : ∀ hi pa, gSy ss ln p h f sk th we hi pa = gSy ss ln p h f sk th we 0 pa := fun hi pa => evS_c fun s hs1 h1 => by
      have hm := A4.1.2.2.2.2.1 s hs1 h1
      have h3 : s % 1024 ≠ 3 := fun e => by rw [e] at hm; exact c hm
      unfold Fc
      simp only [if_neg h3]
    have hg := sw_same (m := m) (W := gW m ss ln p h f sk th we) (A := gA ss ln p h f sk th we) (fun hi pa => by funext j; unfold gW; rw [hsy hi pa]) (fun hi pa => by unfold gA; rw [hsy hi pa]) (fun _ => (0, 0, 0)) 0 (w 0)
    rw [← hg.1, ← hg.2.1, ← hg.2.2] at S5
    refine ⟨I5, mk5, ?_, S5, by omega, FS_tr F4 f5⟩
    rw [if_neg c] at s4
    simp (disch := first | assumption | omega | (simp (disch := omega) only [vM_u, vS_u]; first | assumption | omega)) only [hK, hL, hR, hI, hN, sI, hSp, hC, hW, li, lr, ↓cnd_a, ↓cnd_o, ↓cnd_n, ↓cnd_d, ↓z0, ↓z1, ↓z2, y0n, y1i, y2r, y0e, y1e, y2e, wl_0, wl_1, wl_2, wl_3, wl_4, wl_5, wl_6, wl_7, wl_8, wl_9, wl_10, wl_11, wl_12, wl_13, wl_14, wl_15, wl_16, wl_17, wl_18, wl_19, wl_20, wl_21, wl_22, wl_23, wl_24, wl_25, wl_26, wl_27, wl_28, wl_29, wl_30, wl_31, wl_32, wl_33, wl_34, wl_35, wl_36, wl_37, wl_38, wl_39, wl_40, wl_41, wl_42, wl_43, wl_44, wl_45, wl_46, wl_47, wl_48, wl_49, wl_50, wl_51, wl_52, wl_53, wl_54, wl_55, wl_56, wl_57, wl_58, wl_59, wl_60, wl_61, wl_62, wl_63, wl_64, wl_65, wl_66, wl_67, wl_68, wl_69, wl_70, wl_71, wl_72, wl_73, wl_74, wl_75, wl_76, wl_77, wl_78, wl_79, wl_80, wl_81, wl_82, wl_83, wl_84, wl_85, wl_86, wl_87, wl_88, wl_89, wl_90, wl_91, wl_92, wl_93, wl_94, wl_95, wl_96, wl_97, wl_98, wl_99, wl_100, wl_101, wl_102, wl_103, wl_104, wl_105, wl_106, wl_107, wl_108, wl_109, wl_110, wl_111, wl_112, wl_113, wl_114, wl_115, wl_116, wl_117, wl_118, wl_119, wl_120, wl_121, wl_122, wl_123, wl_124, wl_125, wl_126, wl_127, wl_128, wl_129, wl_130, wl_159, wl_160, wl_200, wl_232, wl_255, wl_256, wl_300, wl_359, wl_360, wl_400, wl_592, wl_992, wl_999, wl_1000, wl_1024, wl_3456, wl_6512, wl_7104, wl_10000, wl_11264, wl_12345, wl_32767, wl_1000000000, wl_1103515245, wl_2000000000, w_add, w_sub, w_mul, w_neg, w_lt, w_le, w_eq, w_cl, w_in, w_nat, w_max2, w_min2, w_abs2, iltT, iltF, ileT, ileF, ieqT, ieqF, bv_01, bft, bv_0, bv_1, bv_t, bv_f, cond_true, cond_false, Bool.not_true, Bool.not_false, if_true, if_false, true_or, or_true, true_and, and_true, ↓reduceIte, decide_true, decide_false, reduceCtorEq, u2_s, u2_o, u2_k, u2_u2, Bool.true_or, Bool.or_true, Bool.false_or, Bool.or_false, Bool.and_true, Bool.true_and, Bool.and_false, Bool.false_and, eq_self, not_true_eq_false, not_false_eq_true, and_self, and_true, true_and, false_and, and_false, w_dv, dvm, XSH_e hX, e1, e2, e3, hI4, s4]
    exact e5
end SWEEP3
