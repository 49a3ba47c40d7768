/-! the reference's cells written: what it does to the view -/
def inV (I : Nat → Nat → Int32) (z : Int) : Prop := z = 0 ∨ (6 ≤ z ∧ z ≤ 11) ∨ z = 15 ∨ (20 ≤ z ∧ z < 20 + 5 * mI I 3) ∨ (70 ≤ z ∧ z < 70 + 3 * mI I 4) ∨ (94 ≤ z ∧ z < 94 + 3 * mI I 5) ∨ (112 ≤ z ∧ z < 112 + 4 * mI I 13) ∨ (232 ≤ z ∧ z < 232 + 6 * mI I 14)
theorem vM_in {I : Nat → Nat → Int32} {a v : Int} (ha : inV I a) (hv : -2147483648 ≤ v ∧ v < 2147483648) : vM (u2 I 288 (ix a) (w v)) = setm (vM I) a v := by
  unfold inV at ha
  have h0 : 0 ≤ a := by omega
  have o : ∀ z, 0 ≤ z → z ≠ a → mI (u2 I 288 (ix a) (w v)) z = mI I z := fun z hz h => by rw [mI_s h0 hv hz, if_neg h]
  have s : mI (u2 I 288 (ix a) (w v)) a = v := by rw [mI_s h0 hv h0, if_pos rfl]
  funext z
  show vM (u2 I 288 (ix a) (w v)) z = if z = a then v else vM I z
  unfold vM
  rw [o 3 (by omega) (by omega), o 4 (by omega) (by omega), o 5 (by omega) (by omega), o 13 (by omega) (by omega), o 14 (by omega) (by omega)]
  by_cases c : z = a
  · subst c
    rw [if_pos (by omega), if_pos rfl, s]
  · rw [if_neg c]
    split
    · rw [o z (by omega) c]
    · rfl
theorem vM_ot {I : Nat → Nat → Int32} {a : Int} {v : Int32} (ha : ¬inV I a ∧ 0 ≤ a ∧ a ≠ 3 ∧ a ≠ 4 ∧ a ≠ 5 ∧ a ≠ 13 ∧ a ≠ 14) : vM (u2 I 288 (ix a) v) = vM I := by
  unfold inV at ha
  have o : ∀ z, 0 ≤ z → z ≠ a → mI (u2 I 288 (ix a) v) z = mI I z := fun z hz h => by
    unfold mI
    rw [u2_r, if_neg (by unfold ix; omega)]
  funext z
  unfold vM
  rw [o 3 (by omega) (by omega), o 4 (by omega) (by omega), o 5 (by omega) (by omega), o 13 (by omega) (by omega), o 14 (by omega) (by omega)]
  by_cases c : z = a
  · rw [if_neg (by omega), if_neg (by omega)]
  · split
    · rw [o z (by omega) c]
    · rfl
theorem vM_13 {I : Nat → Nat → Int32} {v : Int} (hv : 0 ≤ v ∧ v ≤ 30) (h13 : mI I 3 ≤ 10 ∧ mI I 4 ≤ 8 ∧ mI I 5 ≤ 6 ∧ mI I 13 ≤ 30) (z : Int) : vM (u2 I 288 (ix 13) (w v)) z = if z = 13 then v else if 112 ≤ z ∧ z < 232 then (if z < 112 + 4 * v then mI I z else 0) else vM I z := by
  have o : ∀ z, 0 ≤ z → z ≠ 13 → mI (u2 I 288 (ix 13) (w v)) z = mI I z := fun z hz h => by rw [mI_s (by omega) (by omega) hz, if_neg h]
  have s : mI (u2 I 288 (ix 13) (w v)) 13 = v := by rw [mI_s (by omega) (by omega) (by omega), if_pos rfl]
  unfold vM
  rw [o 3 (by omega) (by omega), o 4 (by omega) (by omega), o 5 (by omega) (by omega), s, o 14 (by omega) (by omega)]
  by_cases c : z = 13
  · subst c
    rw [if_pos (by omega), if_pos rfl, s]
  · rw [if_neg c]
    by_cases c2 : 112 ≤ z ∧ z < 232
    · rw [if_pos c2]
      by_cases c3 : z < 112 + 4 * v
      · rw [if_pos (by omega), if_pos c3, o z (by omega) c]
      · rw [if_neg (by omega), if_neg c3]
    · rw [if_neg c2]
      by_cases c4 : z = 0 ∨ (3 ≤ z ∧ z ≤ 11) ∨ (13 ≤ z ∧ z ≤ 15) ∨ (20 ≤ z ∧ z < 20 + 5 * mI I 3) ∨ (70 ≤ z ∧ z < 70 + 3 * mI I 4) ∨ (94 ≤ z ∧ z < 94 + 3 * mI I 5) ∨ (112 ≤ z ∧ z < 112 + 4 * mI I 13) ∨ (232 ≤ z ∧ z < 232 + 6 * mI I 14)
      · rw [if_pos c4, if_pos (by omega), o z (by omega) c]
      · rw [if_neg c4, if_neg (by omega)]
theorem vM_14 {I : Nat → Nat → Int32} {v : Int} (hv : 0 ≤ v ∧ v ≤ 60) (h14 : mI I 3 ≤ 10 ∧ mI I 4 ≤ 8 ∧ mI I 5 ≤ 6 ∧ mI I 13 ≤ 30 ∧ mI I 14 ≤ 60) (z : Int) : vM (u2 I 288 (ix 14) (w v)) z = if z = 14 then v else if 232 ≤ z ∧ z < 592 then (if z < 232 + 6 * v then mI I z else 0) else vM I z := by
  have o : ∀ z, 0 ≤ z → z ≠ 14 → mI (u2 I 288 (ix 14) (w v)) z = mI I z := fun z hz h => by rw [mI_s (by omega) (by omega) hz, if_neg h]
  have s : mI (u2 I 288 (ix 14) (w v)) 14 = v := by rw [mI_s (by omega) (by omega) (by omega), if_pos rfl]
  unfold vM
  rw [o 3 (by omega) (by omega), o 4 (by omega) (by omega), o 5 (by omega) (by omega), s, o 13 (by omega) (by omega)]
  by_cases c : z = 14
  · subst c
    rw [if_pos (by omega), if_pos rfl, s]
  · rw [if_neg c]
    by_cases c2 : 232 ≤ z ∧ z < 592
    · rw [if_pos c2]
      by_cases c3 : z < 232 + 6 * v
      · rw [if_pos (by omega), if_pos c3, o z (by omega) c]
      · rw [if_neg (by omega), if_neg c3]
    · rw [if_neg c2]
      by_cases c4 : z = 0 ∨ (3 ≤ z ∧ z ≤ 11) ∨ (13 ≤ z ∧ z ≤ 15) ∨ (20 ≤ z ∧ z < 20 + 5 * mI I 3) ∨ (70 ≤ z ∧ z < 70 + 3 * mI I 4) ∨ (94 ≤ z ∧ z < 94 + 3 * mI I 5) ∨ (112 ≤ z ∧ z < 112 + 4 * mI I 13) ∨ (232 ≤ z ∧ z < 232 + 6 * mI I 14)
      · rw [if_pos c4, if_pos (by omega), o z (by omega) c]
      · rw [if_neg c4, if_neg (by omega)]
theorem vM_l {I : Nat → Nat → Int32} {z : Int} (h : 112 ≤ z ∧ z < 112 + 4 * mI I 13) : vM I z = mI I z := if_pos (by omega)
theorem vM_lo {I : Nat → Nat → Int32} {z : Int} (h : (112 + 4 * mI I 13 ≤ z ∧ 112 ≤ z ∧ z < 232) ∧ mI I 3 ≤ 10 ∧ mI I 4 ≤ 8 ∧ mI I 5 ≤ 6) : vM I z = 0 := if_neg (by omega)
theorem vM_t {I : Nat → Nat → Int32} {z : Int} (h : 232 ≤ z ∧ z < 232 + 6 * mI I 14) : vM I z = mI I z := if_pos (by omega)
theorem vM_to {I : Nat → Nat → Int32} {z : Int} (h : (232 + 6 * mI I 14 ≤ z ∧ 232 ≤ z) ∧ mI I 3 ≤ 10 ∧ mI I 4 ≤ 8 ∧ mI I 5 ≤ 6 ∧ mI I 13 ≤ 30) : vM I z = 0 := if_neg (by omega)
/-- the counts of a view -/
theorem BD_mI {I : Nat → Nat → Int32} (hB : BD (vM I)) : (0 ≤ mI I 3 ∧ mI I 3 ≤ 10) ∧ (0 ≤ mI I 4 ∧ mI I 4 ≤ 8) ∧ (0 ≤ mI I 5 ∧ mI I 5 ≤ 6) ∧ (0 ≤ mI I 13 ∧ mI I 13 ≤ 30) ∧ 0 ≤ mI I 14 ∧ mI I 14 ≤ 60 := by
  obtain ⟨h3, h4, h5, h6, h7, h8, h9, h13, h14, hbk, hhp, hpp⟩ := id hB
  rw [vM_s (by omega)] at h3 h4 h5 h13 h14
  exact ⟨h3, h4, h5, h13, h14⟩
/-- a throw's mark on the reference -/
def FH (I I' : Nat → Nat → Int32) : Prop := ∀ a k, (a < 287 ∨ (287 < a ∧ a < 293) ∨ 304 ≤ a ∨ (a = 287 ∧ (k < 9 ∨ k = 12))) → ¬(a = 288 ∧ k < 592 ∧ k ≠ 1 ∧ k ≠ 2) → I' a k = I a k
theorem FH_rf {I : Nat → Nat → Int32} : FH I I := fun _ _ _ _ => rfl
theorem FH_tr {I I1 I2 : Nat → Nat → Int32} (h : FH I I1) (g : FH I1 I2) : FH I I2 := fun a k x y => (g a k x y).trans (h a k x y)
theorem FH_u {I : Nat → Nat → Int32} {k : Nat} {v : Int32} (h : k < 592 ∧ k ≠ 1 ∧ k ≠ 2) : FH I (u2 I 288 k v) := fun a j x y => by rw [u2_r, if_neg (by omega)]
theorem FH_q {I I' : Nat → Nat → Int32} (h : FQ I I') : FH I I' := fun a k x _ => h a k x
/-- cells alone -/
def FC (I I' : Nat → Nat → Int32) : Prop := ∀ a k, ¬(a = 288 ∧ k < 592 ∧ k ≠ 1 ∧ k ≠ 2) → I' a k = I a k
theorem FC_rf {I : Nat → Nat → Int32} : FC I I := fun _ _ _ => rfl
theorem FC_tr {I I1 I2 : Nat → Nat → Int32} (h : FC I I1) (g : FC I1 I2) : FC I I2 := fun a k x => (g a k x).trans (h a k x)
theorem FC_u {I : Nat → Nat → Int32} {k : Nat} {v : Int32} (h : k < 592 ∧ k ≠ 1 ∧ k ≠ 2) : FC I (u2 I 288 k v) := fun a j x => by rw [u2_r, if_neg (by omega)]
theorem FH_c {I I' : Nat → Nat → Int32} (h : FC I I') : FH I I' := fun a k _ y => h a k y
section THV
variable {vn vc vw : Nat} {K L : Nat → Nat} {R : Nat → Nat → Nat} {I : Nat → Nat → Int32} {J : Nat → Nat → Int64}
theorem sp_278 {d : Nat} {by' : Int} (hM : MSH K L R) (hb : 1 ≤ by' ∧ by' ≤ 1000) : ev PR (d + 1) 278 [.ref 287, .int (w by')] (((vn, vc, vw, K, L, R), I, J) : HS) = some (.inl (some (.int (w (dv (vM I) by')))), (((vn, vc, vw, K, L, R), u2 I 288 (ix 15) (w (nsd (vM I))), J) : HS)) := by
  have e : w (1103515245 * vM I 15 + 12345) = w (nsd (vM I)) := (w_of _).symm
  have hz := dz_r (w (nsd (vM I)))
  have hzz : dz (w (nsd (vM I))) = w (dz (w (nsd (vM I)))).toInt := (w_of _).symm
  rw [eq_278]
  simp (disch := first | assumption | omega | (simp (disch := omega) only [vM_u, vS_u]; first | assumption | omega)) only [hK, hL, hR, hI, hN, sI, hSp, hC, hW, li, lr, ↓cnd_a, ↓cnd_o, ↓cnd_n, ↓cnd_d, ↓z0, ↓z1, ↓z2, y0n, y1i, y2r, y0e, y1e, y2e, wl_0, wl_1, wl_2, wl_3, wl_4, wl_5, wl_6, wl_7, wl_8, wl_9, wl_10, wl_11, wl_12, wl_13, wl_14, wl_15, wl_16, wl_17, wl_18, wl_19, wl_20, wl_21, wl_22, wl_23, wl_24, wl_25, wl_26, wl_27, wl_28, wl_29, wl_30, wl_31, wl_32, wl_33, wl_34, wl_35, wl_36, wl_37, wl_38, wl_39, wl_40, wl_41, wl_42, wl_43, wl_44, wl_45, wl_46, wl_47, wl_48, wl_49, wl_50, wl_51, wl_52, wl_53, wl_54, wl_55, wl_56, wl_57, wl_58, wl_59, wl_60, wl_61, wl_62, wl_63, wl_64, wl_65, wl_66, wl_67, wl_68, wl_69, wl_70, wl_71, wl_72, wl_73, wl_74, wl_75, wl_76, wl_77, wl_78, wl_79, wl_80, wl_81, wl_82, wl_83, wl_84, wl_85, wl_86, wl_87, wl_88, wl_89, wl_90, wl_91, wl_92, wl_93, wl_94, wl_95, wl_96, wl_97, wl_98, wl_99, wl_100, wl_101, wl_102, wl_103, wl_104, wl_105, wl_106, wl_107, wl_108, wl_109, wl_110, wl_111, wl_112, wl_113, wl_114, wl_115, wl_116, wl_117, wl_118, wl_119, wl_120, wl_121, wl_122, wl_123, wl_124, wl_125, wl_126, wl_127, wl_128, wl_129, wl_130, wl_159, wl_160, wl_200, wl_232, wl_255, wl_256, wl_300, wl_359, wl_360, wl_400, wl_592, wl_992, wl_999, wl_1000, wl_1024, wl_3456, wl_6512, wl_7104, wl_10000, wl_11264, wl_12345, wl_32767, wl_1000000000, wl_1103515245, wl_2000000000, w_add, w_sub, w_mul, w_neg, w_lt, w_le, w_eq, w_cl, w_in, w_nat, w_max2, w_min2, w_abs2, iltT, iltF, ileT, ileF, ieqT, ieqF, bv_01, bft, bv_0, bv_1, bv_t, bv_f, cond_true, cond_false, Bool.not_true, Bool.not_false, if_true, if_false, true_or, or_true, true_and, and_true, ↓reduceIte, decide_true, decide_false, reduceCtorEq, u2_s, u2_o, u2_k, u2_u2, Bool.true_or, Bool.or_true, Bool.false_or, Bool.or_false, Bool.and_true, Bool.true_and, Bool.and_false, Bool.false_and, eq_self, not_true_eq_false, not_false_eq_true, and_self, and_true, true_and, false_and, and_false, w_dv, dvm, MSH_e hM, rV_s I]
  rw [show ∀ s : Int32, ((s.toUInt32 >>> ((w 16).toUInt32 &&& Int32.toUInt32 (w 31))).toInt32) &&& w 32767 = dz s from fun _ => rfl, e, hzz]
  simp (disch := first | assumption | omega | (simp (disch := omega) only [vM_u, vS_u]; first | assumption | omega)) only [hK, hL, hR, hI, hN, sI, hSp, hC, hW, li, lr, ↓cnd_a, ↓cnd_o, ↓cnd_n, ↓cnd_d, ↓z0, ↓z1, ↓z2, y0n, y1i, y2r, y0e, y1e, y2e, wl_0, wl_1, wl_2, wl_3, wl_4, wl_5, wl_6, wl_7, wl_8, wl_9, wl_10, wl_11, wl_12, wl_13, wl_14, wl_15, wl_16, wl_17, wl_18, wl_19, wl_20, wl_21, wl_22, wl_23, wl_24, wl_25, wl_26, wl_27, wl_28, wl_29, wl_30, wl_31, wl_32, wl_33, wl_34, wl_35, wl_36, wl_37, wl_38, wl_39, wl_40, wl_41, wl_42, wl_43, wl_44, wl_45, wl_46, wl_47, wl_48, wl_49, wl_50, wl_51, wl_52, wl_53, wl_54, wl_55, wl_56, wl_57, wl_58, wl_59, wl_60, wl_61, wl_62, wl_63, wl_64, wl_65, wl_66, wl_67, wl_68, wl_69, wl_70, wl_71, wl_72, wl_73, wl_74, wl_75, wl_76, wl_77, wl_78, wl_79, wl_80, wl_81, wl_82, wl_83, wl_84, wl_85, wl_86, wl_87, wl_88, wl_89, wl_90, wl_91, wl_92, wl_93, wl_94, wl_95, wl_96, wl_97, wl_98, wl_99, wl_100, wl_101, wl_102, wl_103, wl_104, wl_105, wl_106, wl_107, wl_108, wl_109, wl_110, wl_111, wl_112, wl_113, wl_114, wl_115, wl_116, wl_117, wl_118, wl_119, wl_120, wl_121, wl_122, wl_123, wl_124, wl_125, wl_126, wl_127, wl_128, wl_129, wl_130, wl_159, wl_160, wl_200, wl_232, wl_255, wl_256, wl_300, wl_359, wl_360, wl_400, wl_592, wl_992, wl_999, wl_1000, wl_1024, wl_3456, wl_6512, wl_7104, wl_10000, wl_11264, wl_12345, wl_32767, wl_1000000000, wl_1103515245, wl_2000000000, w_add, w_sub, w_mul, w_neg, w_lt, w_le, w_eq, w_cl, w_in, w_nat, w_max2, w_min2, w_abs2, iltT, iltF, ileT, ileF, ieqT, ieqF, bv_01, bft, bv_0, bv_1, bv_t, bv_f, cond_true, cond_false, Bool.not_true, Bool.not_false, if_true, if_false, true_or, or_true, true_and, and_true, ↓reduceIte, decide_true, decide_false, reduceCtorEq, u2_s, u2_o, u2_k, u2_u2, Bool.true_or, Bool.or_true, Bool.false_or, Bool.or_false, Bool.and_true, Bool.true_and, Bool.and_false, Bool.false_and, eq_self, not_true_eq_false, not_false_eq_true, and_self, and_true, true_and, false_and, and_false, w_dv, dvm]
  rfl
/-- one is taken up -/
theorem sp_279 {d : Nat} {k : Int} (hM : MSH K L R) (hB : BD (vM I)) (hk : 0 ≤ k ∧ k < vM I 13) : ∃ I', ev PR (d + 2) 279 [.ref 287, .int (w k)] (((vn, vc, vw, K, L, R), I, J) : HS) = some (.inl none, (((vn, vc, vw, K, L, R), I', J) : HS)) ∧ vM I' = takeL (vM I) k ∧ mI I' 12 = mI I 12 ∧ FC I I' := by
  obtain ⟨c3, c4, c5, c13, c14⟩ := BD_mI hB
  have e13 : vM I 13 = mI I 13 := vM_s (by omega)
  rw [e13] at hk
  have lp : ∀ (n : Nat) (j : Int) (I1 : Nat → Nat → Int32), 4 * k ≤ j → j + n = 4 * (mI I 13 - 1) → mI I1 13 = mI I 13 - 1 → FC I I1 → (∀ z, 0 ≤ z → z ≠ 13 → z < 112 + 4 * k ∨ 112 + j ≤ z → mI I1 z = mI I z) → (∀ z, 112 + 4 * k ≤ z → z < 112 + j → mI I1 z = mI I (z + 4)) →
      ∃ I', atv PR (d + 1) cd_279 12 [.ref 287, .int (w k), .int (w j)] [] (((vn, vc, vw, K, L, R), I1, J) : HS) = some (.inl none, (((vn, vc, vw, K, L, R), I', J) : HS)) ∧ mI I' 13 = mI I 13 - 1 ∧ FC I I' ∧ (∀ z, 0 ≤ z → z ≠ 13 → z < 112 + 4 * k ∨ 112 + 4 * (mI I 13 - 1) ≤ z → mI I' z = mI I z) ∧ ∀ z, 112 + 4 * k ≤ z → z < 112 + 4 * (mI I 13 - 1) → mI I' z = mI I (z + 4) := by
    intro n
    induction n with
    | zero =>
      intro j I1 h0 hn h1 hF hz hy
      have ej : j = 4 * (mI I 13 - 1) := by omega
      subst ej
      refine ⟨I1, ?_, h1, hF, hz, hy⟩
      have r := mI_w I1 13
      rw [h1] at r
      rw [eq_279_12]
      simp (disch := first | assumption | omega | (simp (disch := omega) only [vM_u, vS_u]; first | assumption | omega)) only [hK, hL, hR, hI, hN, sI, hSp, hC, hW, li, lr, ↓cnd_a, ↓cnd_o, ↓cnd_n, ↓cnd_d, ↓z0, ↓z1, ↓z2, y0n, y1i, y2r, y0e, y1e, y2e, wl_0, wl_1, wl_2, wl_3, wl_4, wl_5, wl_6, wl_7, wl_8, wl_9, wl_10, wl_11, wl_12, wl_13, wl_14, wl_15, wl_16, wl_17, wl_18, wl_19, wl_20, wl_21, wl_22, wl_23, wl_24, wl_25, wl_26, wl_27, wl_28, wl_29, wl_30, wl_31, wl_32, wl_33, wl_34, wl_35, wl_36, wl_37, wl_38, wl_39, wl_40, wl_41, wl_42, wl_43, wl_44, wl_45, wl_46, wl_47, wl_48, wl_49, wl_50, wl_51, wl_52, wl_53, wl_54, wl_55, wl_56, wl_57, wl_58, wl_59, wl_60, wl_61, wl_62, wl_63, wl_64, wl_65, wl_66, wl_67, wl_68, wl_69, wl_70, wl_71, wl_72, wl_73, wl_74, wl_75, wl_76, wl_77, wl_78, wl_79, wl_80, wl_81, wl_82, wl_83, wl_84, wl_85, wl_86, wl_87, wl_88, wl_89, wl_90, wl_91, wl_92, wl_93, wl_94, wl_95, wl_96, wl_97, wl_98, wl_99, wl_100, wl_101, wl_102, wl_103, wl_104, wl_105, wl_106, wl_107, wl_108, wl_109, wl_110, wl_111, wl_112, wl_113, wl_114, wl_115, wl_116, wl_117, wl_118, wl_119, wl_120, wl_121, wl_122, wl_123, wl_124, wl_125, wl_126, wl_127, wl_128, wl_129, wl_130, wl_159, wl_160, wl_200, wl_232, wl_255, wl_256, wl_300, wl_359, wl_360, wl_400, wl_592, wl_992, wl_999, wl_1000, wl_1024, wl_3456, wl_6512, wl_7104, wl_10000, wl_11264, wl_12345, wl_32767, wl_1000000000, wl_1103515245, wl_2000000000, w_add, w_sub, w_mul, w_neg, w_lt, w_le, w_eq, w_cl, w_in, w_nat, w_max2, w_min2, w_abs2, iltT, iltF, ileT, ileF, ieqT, ieqF, bv_01, bft, bv_0, bv_1, bv_t, bv_f, cond_true, cond_false, Bool.not_true, Bool.not_false, if_true, if_false, true_or, or_true, true_and, and_true, ↓reduceIte, decide_true, decide_false, reduceCtorEq, u2_s, u2_o, u2_k, u2_u2, Bool.true_or, Bool.or_true, Bool.false_or, Bool.or_false, Bool.and_true, Bool.true_and, Bool.and_false, Bool.false_and, eq_self, not_true_eq_false, not_false_eq_true, and_self, and_true, true_and, false_and, and_false, w_dv, dvm, MSH_e hM, r]
    | succ n ih =>
      intro j I1 h0 hn h1 hF hz hy
      have r := mI_w I1 13
      rw [h1] at r
      have r2 := mI_w I1 (112 + j + 4)
      rw [hz _ (by omega) (by omega) (by omega)] at r2
      have hrg := mI_r I (112 + j + 4)
      obtain ⟨I2, hI2⟩ : ∃ I2, I2 = u2 I1 288 (ix (112 + j)) (w (mI I (112 + j + 4))) := ⟨_, rfl⟩
      have m2 : ∀ z, 0 ≤ z → mI I2 z = if z = 112 + j then mI I (112 + j + 4) else mI I1 z := fun z h => by rw [hI2, mI_s (by omega) hrg h]
      obtain ⟨I', x1, x2, x3, x4, x5⟩ := ih (j + 1) I2 (by omega) (by omega) (by rw [m2 _ (by omega), if_neg (by omega)]; exact h1) (FC_tr hF (by rw [hI2]; exact FC_u (by unfold ix; omega))) (fun z a b c => by rw [m2 _ a, if_neg (by omega)]; exact hz z a b (by omega)) (fun z a b => by
        rw [m2 _ (by omega)]
        by_cases ez : z = 112 + j
        · rw [if_pos ez, ez]
        · rw [if_neg ez]; exact hy z a (by omega))
      refine ⟨I', ?_, x2, x3, x4, x5⟩
      rw [← x1, eq_279_12, hI2]
      simp (disch := first | assumption | omega | (simp (disch := omega) only [vM_u, vS_u]; first | assumption | omega)) only [hK, hL, hR, hI, hN, sI, hSp, hC, hW, li, lr, ↓cnd_a, ↓cnd_o, ↓cnd_n, ↓cnd_d, ↓z0, ↓z1, ↓z2, y0n, y1i, y2r, y0e, y1e, y2e, wl_0, wl_1, wl_2, wl_3, wl_4, wl_5, wl_6, wl_7, wl_8, wl_9, wl_10, wl_11, wl_12, wl_13, wl_14, wl_15, wl_16, wl_17, wl_18, wl_19, wl_20, wl_21, wl_22, wl_23, wl_24, wl_25, wl_26, wl_27, wl_28, wl_29, wl_30, wl_31, wl_32, wl_33, wl_34, wl_35, wl_36, wl_37, wl_38, wl_39, wl_40, wl_41, wl_42, wl_43, wl_44, wl_45, wl_46, wl_47, wl_48, wl_49, wl_50, wl_51, wl_52, wl_53, wl_54, wl_55, wl_56, wl_57, wl_58, wl_59, wl_60, wl_61, wl_62, wl_63, wl_64, wl_65, wl_66, wl_67, wl_68, wl_69, wl_70, wl_71, wl_72, wl_73, wl_74, wl_75, wl_76, wl_77, wl_78, wl_79, wl_80, wl_81, wl_82, wl_83, wl_84, wl_85, wl_86, wl_87, wl_88, wl_89, wl_90, wl_91, wl_92, wl_93, wl_94, wl_95, wl_96, wl_97, wl_98, wl_99, wl_100, wl_101, wl_102, wl_103, wl_104, wl_105, wl_106, wl_107, wl_108, wl_109, wl_110, wl_111, wl_112, wl_113, wl_114, wl_115, wl_116, wl_117, wl_118, wl_119, wl_120, wl_121, wl_122, wl_123, wl_124, wl_125, wl_126, wl_127, wl_128, wl_129, wl_130, wl_159, wl_160, wl_200, wl_232, wl_255, wl_256, wl_300, wl_359, wl_360, wl_400, wl_592, wl_992, wl_999, wl_1000, wl_1024, wl_3456, wl_6512, wl_7104, wl_10000, wl_11264, wl_12345, wl_32767, wl_1000000000, wl_1103515245, wl_2000000000, w_add, w_sub, w_mul, w_neg, w_lt, w_le, w_eq, w_cl, w_in, w_nat, w_max2, w_min2, w_abs2, iltT, iltF, ileT, ileF, ieqT, ieqF, bv_01, bft, bv_0, bv_1, bv_t, bv_f, cond_true, cond_false, Bool.not_true, Bool.not_false, if_true, if_false, true_or, or_true, true_and, and_true, ↓reduceIte, decide_true, decide_false, reduceCtorEq, u2_s, u2_o, u2_k, u2_u2, Bool.true_or, Bool.or_true, Bool.false_or, Bool.or_false, Bool.and_true, Bool.true_and, Bool.and_false, Bool.false_and, eq_self, not_true_eq_false, not_false_eq_true, and_self, and_true, true_and, false_and, and_false, w_dv, dvm, MSH_e hM, r, r2]
  have r := mI_w I 13
  obtain ⟨I1, hI1⟩ : ∃ I1, I1 = u2 I 288 (ix 13) (w (mI I 13 - 1)) := ⟨_, rfl⟩
  have m1 : ∀ z, 0 ≤ z → mI I1 z = if z = 13 then mI I 13 - 1 else mI I z := fun z h => by rw [hI1, mI_s (by omega) (by omega) h]
  obtain ⟨I', x1, x2, x3, x4, x5⟩ := lp (4 * (mI I 13 - 1) - 4 * k).toNat (4 * k) I1 (by omega) (by omega) (by rw [m1 _ (by omega), if_pos rfl]) (by rw [hI1]; exact FC_u (by decide)) (fun z a b c => by rw [m1 z a, if_neg b]) (fun z a b => by omega)
  refine ⟨I', ?_, ?_, x4 12 (by omega) (by omega) (by omega), x3⟩
  · rw [eq_279, ← x1, hI1]
    simp (disch := first | assumption | omega | (simp (disch := omega) only [vM_u, vS_u]; first | assumption | omega)) only [hK, hL, hR, hI, hN, sI, hSp, hC, hW, li, lr, ↓cnd_a, ↓cnd_o, ↓cnd_n, ↓cnd_d, ↓z0, ↓z1, ↓z2, y0n, y1i, y2r, y0e, y1e, y2e, wl_0, wl_1, wl_2, wl_3, wl_4, wl_5, wl_6, wl_7, wl_8, wl_9, wl_10, wl_11, wl_12, wl_13, wl_14, wl_15, wl_16, wl_17, wl_18, wl_19, wl_20, wl_21, wl_22, wl_23, wl_24, wl_25, wl_26, wl_27, wl_28, wl_29, wl_30, wl_31, wl_32, wl_33, wl_34, wl_35, wl_36, wl_37, wl_38, wl_39, wl_40, wl_41, wl_42, wl_43, wl_44, wl_45, wl_46, wl_47, wl_48, wl_49, wl_50, wl_51, wl_52, wl_53, wl_54, wl_55, wl_56, wl_57, wl_58, wl_59, wl_60, wl_61, wl_62, wl_63, wl_64, wl_65, wl_66, wl_67, wl_68, wl_69, wl_70, wl_71, wl_72, wl_73, wl_74, wl_75, wl_76, wl_77, wl_78, wl_79, wl_80, wl_81, wl_82, wl_83, wl_84, wl_85, wl_86, wl_87, wl_88, wl_89, wl_90, wl_91, wl_92, wl_93, wl_94, wl_95, wl_96, wl_97, wl_98, wl_99, wl_100, wl_101, wl_102, wl_103, wl_104, wl_105, wl_106, wl_107, wl_108, wl_109, wl_110, wl_111, wl_112, wl_113, wl_114, wl_115, wl_116, wl_117, wl_118, wl_119, wl_120, wl_121, wl_122, wl_123, wl_124, wl_125, wl_126, wl_127, wl_128, wl_129, wl_130, wl_159, wl_160, wl_200, wl_232, wl_255, wl_256, wl_300, wl_359, wl_360, wl_400, wl_592, wl_992, wl_999, wl_1000, wl_1024, wl_3456, wl_6512, wl_7104, wl_10000, wl_11264, wl_12345, wl_32767, wl_1000000000, wl_1103515245, wl_2000000000, w_add, w_sub, w_mul, w_neg, w_lt, w_le, w_eq, w_cl, w_in, w_nat, w_max2, w_min2, w_abs2, iltT, iltF, ileT, ileF, ieqT, ieqF, bv_01, bft, bv_0, bv_1, bv_t, bv_f, cond_true, cond_false, Bool.not_true, Bool.not_false, if_true, if_false, true_or, or_true, true_and, and_true, ↓reduceIte, decide_true, decide_false, reduceCtorEq, u2_s, u2_o, u2_k, u2_u2, Bool.true_or, Bool.or_true, Bool.false_or, Bool.or_false, Bool.and_true, Bool.true_and, Bool.and_false, Bool.false_and, eq_self, not_true_eq_false, not_false_eq_true, and_self, and_true, true_and, false_and, and_false, w_dv, dvm, MSH_e hM, r]
  · have e3 := x4 3 (by omega) (by omega) (by omega)
    have e4 := x4 4 (by omega) (by omega) (by omega)
    have e5 := x4 5 (by omega) (by omega) (by omega)
    have e14 := x4 14 (by omega) (by omega) (by omega)
    funext z
    unfold takeL
    rw [e13]
    by_cases z13 : z = 13
    · rw [if_pos z13, z13, vM_s (by omega), x2]
    · rw [if_neg z13]
      by_cases zr : 112 ≤ z ∧ z < 232
      · rw [if_pos zr]
        by_cases zn : z < 112 + 4 * (mI I 13 - 1)
        · rw [if_pos zn, vM_l (by omega)]
          by_cases zk : z < 112 + 4 * k
          · rw [if_pos zk, vM_l (by omega)]
            exact x4 z (by omega) z13 (by omega)
          · rw [if_neg zk, vM_l (by omega)]
            exact x5 z (by omega) zn
        · rw [if_neg zn, vM_lo (by omega)]
      · rw [if_neg zr]
        unfold vM
        rw [e3, e4, e5, e14, x2]
        by_cases c : z = 0 ∨ (3 ≤ z ∧ z ≤ 11) ∨ (13 ≤ z ∧ z ≤ 15) ∨ (20 ≤ z ∧ z < 20 + 5 * mI I 3) ∨ (70 ≤ z ∧ z < 70 + 3 * mI I 4) ∨ (94 ≤ z ∧ z < 94 + 3 * mI I 5) ∨ (112 ≤ z ∧ z < 112 + 4 * mI I 13) ∨ (232 ≤ z ∧ z < 232 + 6 * mI I 14)
        · rw [if_pos c, if_pos (by omega)]
          exact x4 z (by omega) z13 (by omega)
        · rw [if_neg c, if_neg (by omega)]
/-- a row of those that lie is written -/
theorem sp_280 {d : Nat} {k h x y : Int} {e : Bool} (hM : MSH K L R) (hk : 0 ≤ k ∧ k < 30) : ev PR (d + 1) 280 [.ref 287, .int (w k), .int (w h), .int (w x), .int (w y), .int (bv e)] (((vn, vc, vw, K, L, R), I, J) : HS) = some (.inl none, (((vn, vc, vw, K, L, R), u2 (u2 (u2 (u2 I 288 (ix (112 + 4 * k)) (w h)) 288 (ix (112 + 4 * k + 1)) (w x)) 288 (ix (112 + 4 * k + 2)) (w y)) 288 (ix (112 + 4 * k + 3)) (w (cond e 1 0)), J) : HS)) := by
  rw [eq_280]
  cases e <;> simp (disch := first | assumption | omega | (simp (disch := omega) only [vM_u, vS_u]; first | assumption | omega)) only [hK, hL, hR, hI, hN, sI, hSp, hC, hW, li, lr, ↓cnd_a, ↓cnd_o, ↓cnd_n, ↓cnd_d, ↓z0, ↓z1, ↓z2, y0n, y1i, y2r, y0e, y1e, y2e, wl_0, wl_1, wl_2, wl_3, wl_4, wl_5, wl_6, wl_7, wl_8, wl_9, wl_10, wl_11, wl_12, wl_13, wl_14, wl_15, wl_16, wl_17, wl_18, wl_19, wl_20, wl_21, wl_22, wl_23, wl_24, wl_25, wl_26, wl_27, wl_28, wl_29, wl_30, wl_31, wl_32, wl_33, wl_34, wl_35, wl_36, wl_37, wl_38, wl_39, wl_40, wl_41, wl_42, wl_43, wl_44, wl_45, wl_46, wl_47, wl_48, wl_49, wl_50, wl_51, wl_52, wl_53, wl_54, wl_55, wl_56, wl_57, wl_58, wl_59, wl_60, wl_61, wl_62, wl_63, wl_64, wl_65, wl_66, wl_67, wl_68, wl_69, wl_70, wl_71, wl_72, wl_73, wl_74, wl_75, wl_76, wl_77, wl_78, wl_79, wl_80, wl_81, wl_82, wl_83, wl_84, wl_85, wl_86, wl_87, wl_88, wl_89, wl_90, wl_91, wl_92, wl_93, wl_94, wl_95, wl_96, wl_97, wl_98, wl_99, wl_100, wl_101, wl_102, wl_103, wl_104, wl_105, wl_106, wl_107, wl_108, wl_109, wl_110, wl_111, wl_112, wl_113, wl_114, wl_115, wl_116, wl_117, wl_118, wl_119, wl_120, wl_121, wl_122, wl_123, wl_124, wl_125, wl_126, wl_127, wl_128, wl_129, wl_130, wl_159, wl_160, wl_200, wl_232, wl_255, wl_256, wl_300, wl_359, wl_360, wl_400, wl_592, wl_992, wl_999, wl_1000, wl_1024, wl_3456, wl_6512, wl_7104, wl_10000, wl_11264, wl_12345, wl_32767, wl_1000000000, wl_1103515245, wl_2000000000, w_add, w_sub, w_mul, w_neg, w_lt, w_le, w_eq, w_cl, w_in, w_nat, w_max2, w_min2, w_abs2, iltT, iltF, ileT, ileF, ieqT, ieqF, bv_01, bft, bv_0, bv_1, bv_t, bv_f, cond_true, cond_false, Bool.not_true, Bool.not_false, if_true, if_false, true_or, or_true, true_and, and_true, ↓reduceIte, decide_true, decide_false, reduceCtorEq, u2_s, u2_o, u2_k, u2_u2, Bool.true_or, Bool.or_true, Bool.false_or, Bool.or_false, Bool.and_true, Bool.true_and, Bool.and_false, Bool.false_and, eq_self, not_true_eq_false, not_false_eq_true, and_self, and_true, true_and, false_and, and_false, w_dv, dvm, MSH_e hM, Int.add_zero]
end THV
