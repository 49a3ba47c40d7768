/-! the law from its entry: INV at the start -/
def m0 : Int → Int := fun z => if z = 6 then 6 else if z = 7 then 1 else if z = 15 then 1 else 0
theorem BD_0 : BD m0 := by
  refine ⟨by decide, by decide, by decide, by decide, by decide, by decide, by decide, by decide, by decide, fun b h1 h2 => ?_, fun b h1 h2 => ?_, fun b h1 h2 => ?_⟩
  · have : m0 3 = 0 := rfl
    omega
  · have : m0 4 = 0 := rfl
    omega
  · have : m0 5 = 0 := rfl
    omega
theorem GD_0 : GD 0 m0 := by
  have e13 : m0 13 = 0 := rfl
  have e14 : m0 14 = 0 := rfl
  have e5 : m0 5 = 0 := rfl
  have e0 : m0 0 = 0 := rfl
  exact ⟨BD_0, fun k a b => by omega, fun k a b => by omega, fun p a b => by omega, by omega, by omega⟩
theorem allT_0 : allT m0 = 0 := rfl
def g0 : Gho := ((m0, [], -1), ((fun _ => 0), 0, -1), (0, fun _ => m0), 0, m0, [], -1)
theorem IVg_0 : IVg 0 g0 := ⟨GD_0, fun j a b => by have b' : j < 0 := b; omega, Or.inl rfl, fun h => absurd h (by decide), by decide, by decide⟩
section BEG
variable {vn vc vw : Nat} {K L : Nat → Nat} {R : Nat → Nat → Nat} {I : Nat → Nat → Int32} {J : Nat → Nat → Int64}
theorem vS_0 {q : Nat} (h6 : I q 12 = w 6 ∧ I q 13 = w 1 ∧ I q 18 = w 1 ∧ ∀ k, k ≠ 12 → k ≠ 13 → k ≠ 18 → I q k = w 0) (hz : I (q + 1) 2 = w 0 ∧ I (q + 3) 2 = w 0 ∧ I (q + 5) 2 = w 0 ∧ I (q + 7) 2 = w 0 ∧ I (q + 9) 2 = w 0) : vS I q = m0 := by
  obtain ⟨a1, a2, a3, a4⟩ := h6
  obtain ⟨z1', z2', z3', z4', z5'⟩ := hz
  have w0 : (w 0).toInt = 0 := rfl
  funext z
  unfold vS m0
  rw [z1', z2', z3', z4', z5', a3, a4 11 (by decide) (by decide) (by decide), w0]
  by_cases c : 6 ≤ z ∧ z ≤ 11
  · rw [if_neg (by omega), if_neg (by omega), if_neg (by omega), if_neg (by omega), if_pos c]
    by_cases c6 : z = 6
    · subst c6
      have e : I q (ix (6 + 6)) = w 6 := a1
      rw [e, if_pos rfl]
      rfl
    · rw [if_neg c6]
      by_cases c7 : z = 7
      · subst c7
        have e : I q (ix (7 + 6)) = w 1 := a2
        rw [e, if_pos rfl]
        rfl
      · rw [if_neg c7, if_neg (by omega), a4 _ (by unfold ix; omega) (by unfold ix; omega) (by unfold ix; omega)]
        rfl
  · rw [if_neg (show ¬z = 6 by omega), if_neg (show ¬z = 7 by omega), if_neg c]
    by_cases c15 : z = 15
    · subst c15
      rfl
    · rw [if_neg c15, if_neg c15]
      (repeat' split) <;> first | rfl | omega
theorem vM_0 (h6 : I 288 6 = w 6 ∧ I 288 7 = w 1 ∧ I 288 15 = w 1 ∧ ∀ k, k ≠ 1 → k ≠ 6 → k ≠ 7 → k ≠ 15 → I 288 k = w 0) : vM I = m0 ∧ mI I 12 = 0 := by
  obtain ⟨a1, a2, a3, a4⟩ := h6
  have e : ∀ z, 0 ≤ z → z ≠ 1 → mI I z = m0 z := fun z z0' zn => by
    unfold mI m0
    by_cases c6 : z = 6
    · subst c6
      have e : I 288 (ix 6) = w 6 := a1
      rw [e, if_pos rfl]
      rfl
    · rw [if_neg c6]
      by_cases c7 : z = 7
      · subst c7
        have e : I 288 (ix 7) = w 1 := a2
        rw [e, if_pos rfl]
        rfl
      · rw [if_neg c7]
        by_cases c15 : z = 15
        · subst c15
          have e : I 288 (ix 15) = w 1 := a3
          rw [e, if_pos rfl]
          rfl
        · rw [if_neg c15, a4 _ (by unfold ix; omega) (by unfold ix; omega) (by unfold ix; omega) (by unfold ix; omega)]
          rfl
  refine ⟨?_, e 12 (by omega) (by omega)⟩
  have e3 : mI I 3 = 0 := e 3 (by omega) (by omega)
  have e4 : mI I 4 = 0 := e 4 (by omega) (by omega)
  have e5 : mI I 5 = 0 := e 5 (by omega) (by omega)
  have e13 : mI I 13 = 0 := e 13 (by omega) (by omega)
  have e14 : mI I 14 = 0 := e 14 (by omega) (by omega)
  funext z
  unfold vM
  rw [e3, e4, e5, e13, e14]
  by_cases c : z = 0 ∨ (3 ≤ z ∧ z ≤ 11) ∨ (13 ≤ z ∧ z ≤ 15) ∨ (20 ≤ z ∧ z < 20 + 5 * 0) ∨ (70 ≤ z ∧ z < 70 + 3 * 0) ∨ (94 ≤ z ∧ z < 94 + 3 * 0) ∨ (112 ≤ z ∧ z < 112 + 4 * 0) ∨ (232 ≤ z ∧ z < 232 + 6 * 0)
  · rw [if_pos c]; exact e z (by omega) (by omega)
  · rw [if_neg c]
    unfold m0
    rw [if_neg (by omega), if_neg (by omega), if_neg (by omega)]
/-- the law, whole: on every script it answers 1 -/
theorem lw_372 {d : Nat} {ls : Nat} {S : Nat → Int32} (k78 : K 78 = 25) (l78 : L 78 = ls) (hi : ∀ k, I 78 k = S k) (hA : SWA K L I) (hf : Frs 305 K) (hr : vc ≤ 100 ∧ vw ≤ 30000) (hls : ls ≤ 7000) :
    ∃ s' N', ev PR (d + 46) 374 [.ref 78] (((79, vc, vw, K, L, R), I, J) : HS) = some (.inl (some (.int (w 1))), s') ∧ INV S ls N' s' ∧ 0 ≤ N' ∧ N' ≤ 1001 := by
  obtain ⟨vc1, vw1, K1, L1, R1, I1, J1, e1, y1, X1, ⟨⟨s91, w91⟩, ⟨s103, w103⟩, s115, w115⟩, ⟨r91, r273, k80, r80, k81, l81, i80⟩, v91, z91, ⟨bs, b1, b2⟩, ⟨c1, c2, c3, c4, c5, c6⟩, f1⟩ := sp_157 (d := d + 40) (vc := vc + 1) (vw := vw + 13) (K := u1 K 79 11) (L := u1 L 79 0) (R := u1 R 79 (fun _ => 0)) (I := u1 I 79 (fun _ => w 0)) (J := u1 J 79 (fun _ => 0)) (u1_s _ _ _)
  obtain ⟨vc2, vw2, K2, L2, R2, I2, J2, e2, y2, M2, ⟨i12, i287⟩, ⟨m1, m6⟩, f2⟩ := sp_216 (d := d + 44) (vc := vc1 + 1) (vw := vw1 + 32) (K := u1 K1 287 12) (L := u1 L1 287 0) (R := u1 R1 287 (fun _ => 0)) (I := u1 I1 287 (fun _ => w 0)) (J := u1 J1 287 (fun _ => 0)) (u1_s _ _ _)
  obtain ⟨K3, hK3⟩ : ∃ K3, K3 = u1 K2 304 21 := ⟨_, rfl⟩
  obtain ⟨L3, hL3⟩ : ∃ L3, L3 = u1 L2 304 1 := ⟨_, rfl⟩
  obtain ⟨R3, hR3⟩ : ∃ R3, R3 = u1 R2 304 (fun _ => 0) := ⟨_, rfl⟩
  obtain ⟨I3, hI3⟩ : ∃ I3, I3 = u1 I2 304 (fun _ => w 0) := ⟨_, rfl⟩
  have kc : ∀ a, a < 287 → K3 a = K1 a := fun a h => by rw [hK3, u1_o _ _ (by omega), (f2 a (by omega)).1, u1_o _ _ (by omega)]
  have lc : ∀ a, a < 287 → L3 a = L1 a := fun a h => by rw [hL3, u1_o _ _ (by omega), (f2 a (by omega)).2.1, u1_o _ _ (by omega)]
  have rc : ∀ a, a < 287 → R3 a = R1 a := fun a h => by rw [hR3, u1_o _ _ (by omega), (f2 a (by omega)).2.2.1, u1_o _ _ (by omega)]
  have ic : ∀ a, a < 287 → I3 a = I1 a := fun a h => by rw [hI3, u1_o _ _ (by omega), (f2 a (by omega)).2.2.2, u1_o _ _ (by omega)]
  have km : ∀ a, a < 304 → K3 a = K2 a := fun a h => by rw [hK3, u1_o _ _ (by omega)]
  have lm : ∀ a, a < 304 → L3 a = L2 a := fun a h => by rw [hL3, u1_o _ _ (by omega)]
  have rm : ∀ a, a < 304 → R3 a = R2 a := fun a h => by rw [hR3, u1_o _ _ (by omega)]
  have im : ∀ a, a < 304 → I3 a = I2 a := fun a h => by rw [hI3, u1_o _ _ (by omega)]
  have ks : ∀ a, a < 79 → K3 a = K a := fun a h => by rw [kc a (by omega), (f1 a (by omega)).1, u1_o _ _ (by omega)]
  have lss : ∀ a, a < 79 → L3 a = L a := fun a h => by rw [lc a (by omega), (f1 a (by omega)).2.1, u1_o _ _ (by omega)]
  have is : ∀ a, a < 79 → I3 a = I a := fun a h => by rw [ic a (by omega), (f1 a (by omega)).2.2.2, u1_o _ _ (by omega)]
  have X3 : XSH K3 L3 R3 := by
    unfold XSH at X1 ⊢
    simp (disch := omega) only [kc, lc, rc]
    exact X1
  have sh : ∀ q, q + 11 < 287 → SHq K1 L1 R1 q → SHq K3 L3 R3 q := fun q h g => SHq_g (fun a x y => ⟨kc a (by omega), lc a (by omega), rc a (by omega)⟩) g
  have wd : ∀ q, q + 11 < 287 → Wd I1 q → Wd I3 q := fun q h g => Wd_f' (fun a x => by rw [ic a (by omega)]) g
  have M3 : MSH K3 L3 R3 := by
    unfold MSH at M2 ⊢
    simp (disch := omega) only [km, lm, rm]
    exact M2
  have al : ∀ lid, lid = 80 → ALaw K3 L3 R3 I3 lid [] (-1) := fun lid e => by
    subst e
    have er : R3 80 1 = 81 := by rw [rc 80 (by omega)]; exact r80
    refine ⟨⟨by rw [kc 80 (by omega)]; exact k80, by rw [er, kc 81 (by omega)]; exact k81, by rw [er, lc 81 (by omega)]; exact l81⟩, ⟨by omega, by rw [er]; omega⟩, ⟨by decide, by rw [ic 80 (by omega)]; exact i80, by omega, by omega⟩, (fun k hk => absurd hk (Nat.not_lt_zero k)), (fun s hs => nomatch hs), Nat.zero_le 40, by decide⟩
  have hA3 : SWA K3 L3 I3 := fun r hr => by
    have r77 := (tW_r hr).2
    obtain ⟨q1, q2, q3⟩ := hA r hr
    exact ⟨by rw [ks r (by omega)]; exact q1, by rw [lss r (by omega)]; exact q2, fun i hi0 => by rw [is r (by omega)]; exact q3 i hi0⟩
  have vs : vS I3 91 = m0 := by
    rw [vS_f' (I := I1) (fun a k x y z => by rw [ic a (by omega)])]
    exact vS_0 v91 z91
  obtain ⟨vm, v12⟩ := vM_0 (I := I3) (by rw [im 288 (by omega)]; exact m6)
  have zi : ∀ k, k ≠ 12 → I3 287 k = w 0 := fun k h => by rw [im 287 (by omega), i287 k h, u1_s]
  have xc : IVc K3 L3 R3 I3 0 g0 1 0 := by
    refine ⟨⟨X3, sh 91 (by omega) s91, wd 91 (by omega) w91, vs, BD_0, al _ (by rw [rc 91 (by omega)]; exact r91), ⟨[], -1, al _ (by rw [rc 273 (by omega)]; exact r273), Or.inr (by rw [ic 273 (by omega)]; exact c1), fun q => absurd q (by rw [ic 273 (by omega), c1]; decide)⟩, by rw [ic 277 (by omega)]; exact c2, by decide, fun c hc => ?_⟩, by decide, hA3, ⟨by rw [ic 82 (by omega)]; exact c4, by decide, fun k a b => ?_, fun k a b => ?_⟩, by rw [ic 79 (by omega)]; exact c6, ⟨⟨by rw [ic 127 (by omega)]; exact b1, by decide⟩, ⟨by rw [ic 127 (by omega)]; exact b2, by decide⟩, fun i hi0 => ?_, fun j a b => ?_⟩, ⟨sh 103 (by omega) s103, wd 103 (by omega) w103⟩, ⟨sh 115 (by omega) s115, wd 115 (by omega) w115⟩, by rw [ic 79 (by omega)]; exact c5, fun q => absurd q (by decide), by rw [hK3, u1_s], by rw [hL3, u1_s]⟩
    · rw [ic 278 (by omega), c3]
      decide
    · have b' : k < 0 := b
      omega
    · have b' : k < 0 := b
      omega
    · obtain ⟨t1', t2', t3'⟩ := bs i hi0
      exact ⟨by rw [rc 128 (by omega)]; exact t1', sh _ (by omega) t2', wd _ (by omega) t3'⟩
    · have b' : j < 0 := b
      omega
  have xm : IVm K3 L3 R3 I3 g0 := by
    refine ⟨⟨M3, hA3, ⟨fun _ => 0, 0, by rw [im 288 (by omega)]; exact m1, by rw [im 288 (by omega)]; exact m6.2.2.2 2 (by decide) (by decide) (by decide) (by decide), by decide, by decide, fun k a b => ?_, fun k a b => ?_, fun _ => rfl, fun h => absurd h (by decide)⟩, vm, BD_0, Or.inl (zi 15 (by decide))⟩, v12.trans allT_0.symm, ⟨zi 8 (by decide), by decide, fun k a b => ?_, fun k a b => ?_⟩, by rw [im 287 (by omega)]; exact i12, ⟨⟨zi 6 (by decide), by decide, by decide⟩, fun j a b => ?_⟩, zi 3 (by decide), fun q => absurd q (by decide)⟩
    · omega
    · omega
    · have b' : k < 0 := b
      omega
    · have b' : k < 0 := b
      omega
    · have b' : j < 0 := b
      omega
  have xs : IVs 305 (vc2 + 1) (vw2 + 1) K3 L3 I3 0 S ls := by
    refine ⟨⟨by omega, by omega, by omega, by omega, fun a ha => ?_⟩, by rw [ks 78 (by omega)]; exact k78, by rw [lss 78 (by omega)]; exact l78, fun k => by rw [is 78 (by omega)]; exact hi k⟩
    have e : K3 a = K a := by
      rw [hK3, u1_o _ _ (by omega), (f2 a (by omega)).1, u1_o _ _ (by omega), (f1 a (by omega)).1, u1_o _ _ (by omega)]
    rw [e]
    exact hf a ha
  have iv : INV S ls 0 (((305, vc2 + 1, vw2 + 1, K3, L3, R3), I3, u1 J2 304 (fun _ => 0)) : HS) := ⟨305, vc2 + 1, vw2 + 1, K3, L3, R3, I3, _, g0, 1, 0, rfl, IVg_0, xc, xm, xs⟩
  obtain ⟨s', N', e3, z, zn⟩ := lw_loop (d := d + 5) (by omega) 1001 0 0 _ (.retAddr 0) (.retAddr 0) iv (by omega) (by omega) (by omega) (by omega) (by omega)
  refine ⟨s', N', ?_, z, zn⟩
  rw [← e3, hK3, hL3, hR3, hI3, eq_374]
  simp (disch := first | assumption | omega | (simp (disch := omega) only [vM_u, vS_u]; first | assumption | omega)) only [hK, hL, hR, hI, hN, sI, hSp, hC, hW, li, lr, ↓cnd_a, ↓cnd_o, ↓cnd_n, ↓cnd_d, ↓z0, ↓z1, ↓z2, y0n, y1i, y2r, y0e, y1e, y2e, wl_0, wl_1, wl_2, wl_3, wl_4, wl_5, wl_6, wl_7, wl_8, wl_9, wl_10, wl_11, wl_12, wl_13, wl_14, wl_15, wl_16, wl_17, wl_18, wl_19, wl_20, wl_21, wl_22, wl_23, wl_24, wl_25, wl_26, wl_27, wl_28, wl_29, wl_30, wl_31, wl_32, wl_33, wl_34, wl_35, wl_36, wl_37, wl_38, wl_39, wl_40, wl_41, wl_42, wl_43, wl_44, wl_45, wl_46, wl_47, wl_48, wl_49, wl_50, wl_51, wl_52, wl_53, wl_54, wl_55, wl_56, wl_57, wl_58, wl_59, wl_60, wl_61, wl_62, wl_63, wl_64, wl_65, wl_66, wl_67, wl_68, wl_69, wl_70, wl_71, wl_72, wl_73, wl_74, wl_75, wl_76, wl_77, wl_78, wl_79, wl_80, wl_81, wl_82, wl_83, wl_84, wl_85, wl_86, wl_87, wl_88, wl_89, wl_90, wl_91, wl_92, wl_93, wl_94, wl_95, wl_96, wl_97, wl_98, wl_99, wl_100, wl_101, wl_102, wl_103, wl_104, wl_105, wl_106, wl_107, wl_108, wl_109, wl_110, wl_111, wl_112, wl_113, wl_114, wl_115, wl_116, wl_117, wl_118, wl_119, wl_120, wl_121, wl_122, wl_123, wl_124, wl_125, wl_126, wl_127, wl_128, wl_129, wl_130, wl_159, wl_160, wl_200, wl_232, wl_255, wl_256, wl_300, wl_359, wl_360, wl_400, wl_592, wl_992, wl_999, wl_1000, wl_1024, wl_3456, wl_6512, wl_7104, wl_10000, wl_11264, wl_12345, wl_32767, wl_1000000000, wl_1103515245, wl_2000000000, w_add, w_sub, w_mul, w_neg, w_lt, w_le, w_eq, w_cl, w_in, w_nat, w_max2, w_min2, w_abs2, iltT, iltF, ileT, ileF, ieqT, ieqF, bv_01, bft, bv_0, bv_1, bv_t, bv_f, cond_true, cond_false, Bool.not_true, Bool.not_false, if_true, if_false, true_or, or_true, true_and, and_true, ↓reduceIte, decide_true, decide_false, reduceCtorEq, u2_s, u2_o, u2_k, u2_u2, Bool.true_or, Bool.or_true, Bool.false_or, Bool.or_false, Bool.and_true, Bool.true_and, Bool.and_false, Bool.false_and, eq_self, not_true_eq_false, not_false_eq_true, and_self, and_true, true_and, false_and, and_false, w_dv, dvm, hMk, sR, hJ, u1_s, u1_o, e1, e2, ix, Int.reduceToNat, Nat.reduceLeDiff, Nat.reduceEqDiff, Nat.reduceAdd]
  all_goals rfl
end BEG
