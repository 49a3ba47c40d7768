/-! arranged: the reference -/
section ARM
variable {vn vc vw : Nat} {K L : Nat → Nat} {R : Nat → Nat → Nat} {I : Nat → Nat → Int32} {J : Nat → Nat → Int64}
/-- a row of the table -/
def RsG (I : Nat → Nat → Int32) (O pr : Int → Int) (n b s : Nat) : Prop := ∃ e : Int, I 301 (1024 * b + s) = w e ∧ (e = 2000000000 ∨ (0 ≤ e ∧ e ≤ ((n - b : Nat) : Int) * 9990000)) ∧ (pop (2 ^ n - 1 - s) = b → e = Lv O pr n (n - b) (2 ^ n - 1 - s))
def AmI (K L : Nat → Nat) (R : Nat → Nat → Nat) (I : Nat → Nat → Int32) (m : Int → Int) (ss : List Int) (ln : Int) (O pr : Int → Int) (n : Nat) : Prop := QR K L R I m ss ln ∧ m 3 = (n : Int) ∧ n ≤ 10 ∧ (∀ j : Nat, j < 10 → I 296 j = w (O j)) ∧ (∀ k : Int, 0 ≤ k → k < n → bl m k 3 = pr k) ∧ (∀ j, 0 ≤ O j ∧ O j ≤ 10000) ∧ ∀ k, 0 ≤ k → k < (n : Int) → 0 ≤ pr k ∧ pr k ≤ 999
theorem AmI_u {I : Nat → Nat → Int32} {m : Int → Int} {ss : List Int} {ln : Int} {O pr : Int → Int} {n k : Nat} {v : Int32} (h : AmI K L R I m ss ln O pr n) : AmI K L R (u2 I 301 k v) m ss ln O pr n := by
  obtain ⟨h1, h2, h3, h4, h5⟩ := h
  exact ⟨QR_u (by omega) h1, h2, h3, fun j hj => by rw [u2_o _ _ _ _ (by decide)]; exact h4 j hj, h5⟩
theorem RsG_u {I : Nat → Nat → Int32} {O pr : Int → Int} {n b s b' s' : Nat} {v : Int32} (hs : s < 1024 ∧ s' < 1024) (hne : b ≠ b' ∨ s ≠ s') (h : RsG I O pr n b s) : RsG (u2 I 301 (1024 * b' + s') v) O pr n b s := by
  obtain ⟨e, h1, h2⟩ := h
  exact ⟨e, by rw [u2_r, if_neg (by omega)]; exact h1, h2⟩
theorem cmp_b {n s k : Nat} (hs : s < 2 ^ n) (hk : k < n) : (2 ^ n - 1 - s).testBit k = !s.testBit k := by
  have := Nat.testBit_two_pow_sub_succ hs k
  rw [show 2 ^ n - (s + 1) = 2 ^ n - 1 - s by omega, decide_eq_true hk, Bool.true_and] at this
  exact this
theorem tb_ge {s k : Nat} (h : s.testBit k = true) : 2 ^ k ≤ s := Nat.ge_two_pow_of_testBit h
/-- the entry, by its range -/
theorem sp_308 {d b s : Nat} {σ : HS} (hb : b ≤ 10) (hs : s < 1024) : ev PR (d + 1) 308 [.ref 287, .int (w (b : Int)), .int (w (s : Int))] σ = some (.inl (some (.int (w ((1024 * b + s : Nat) : Int)))), σ) := by
  have e : (1024 * b + s : Int) = ((1024 * b + s : Nat) : Int) := by omega
  rw [eq_308]
  simp (disch := first | assumption | omega | (simp (disch := omega) only [vM_u, vS_u]; first | assumption | omega)) only [hK, hL, hR, hI, hN, sI, hSp, hC, hW, li, lr, ↓cnd_a, ↓cnd_o, ↓cnd_n, ↓cnd_d, ↓z0, ↓z1, ↓z2, y0n, y1i, y2r, y0e, y1e, y2e, wl_0, wl_1, wl_2, wl_3, wl_4, wl_5, wl_6, wl_7, wl_8, wl_9, wl_10, wl_11, wl_12, wl_13, wl_14, wl_15, wl_16, wl_17, wl_18, wl_19, wl_20, wl_21, wl_22, wl_23, wl_24, wl_25, wl_26, wl_27, wl_28, wl_29, wl_30, wl_31, wl_32, wl_33, wl_34, wl_35, wl_36, wl_37, wl_38, wl_39, wl_40, wl_41, wl_42, wl_43, wl_44, wl_45, wl_46, wl_47, wl_48, wl_49, wl_50, wl_51, wl_52, wl_53, wl_54, wl_55, wl_56, wl_57, wl_58, wl_59, wl_60, wl_61, wl_62, wl_63, wl_64, wl_65, wl_66, wl_67, wl_68, wl_69, wl_70, wl_71, wl_72, wl_73, wl_74, wl_75, wl_76, wl_77, wl_78, wl_79, wl_80, wl_81, wl_82, wl_83, wl_84, wl_85, wl_86, wl_87, wl_88, wl_89, wl_90, wl_91, wl_92, wl_93, wl_94, wl_95, wl_96, wl_97, wl_98, wl_99, wl_100, wl_101, wl_102, wl_103, wl_104, wl_105, wl_106, wl_107, wl_108, wl_109, wl_110, wl_111, wl_112, wl_113, wl_114, wl_115, wl_116, wl_117, wl_118, wl_119, wl_120, wl_121, wl_122, wl_123, wl_124, wl_125, wl_126, wl_127, wl_128, wl_129, wl_130, wl_159, wl_160, wl_200, wl_232, wl_255, wl_256, wl_300, wl_359, wl_360, wl_400, wl_592, wl_992, wl_999, wl_1000, wl_1024, wl_3456, wl_6512, wl_7104, wl_10000, wl_11264, wl_12345, wl_32767, wl_1000000000, wl_1103515245, wl_2000000000, w_add, w_sub, w_mul, w_neg, w_lt, w_le, w_eq, w_cl, w_in, w_nat, w_max2, w_min2, w_abs2, iltT, iltF, ileT, ileF, ieqT, ieqF, bv_01, bft, bv_0, bv_1, bv_t, bv_f, cond_true, cond_false, Bool.not_true, Bool.not_false, if_true, if_false, true_or, or_true, true_and, and_true, ↓reduceIte, decide_true, decide_false, reduceCtorEq, u2_s, u2_o, u2_k, u2_u2, Bool.true_or, Bool.or_true, Bool.false_or, Bool.or_false, Bool.and_true, Bool.true_and, Bool.and_false, Bool.false_and, eq_self, not_true_eq_false, not_false_eq_true, and_self, and_true, true_and, false_and, and_false, w_dv, dvm, e]
theorem sub_1 {n b : Nat} (h : b < n) : b + (n - b - 1 + 1) = n := by omega
theorem sub_2 {n b : Nat} (h : b < n) : b + 1 + (n - b - 1) = n := by omega
theorem sub_3 {n b : Nat} (h : b < n) : b + (n - b) = n := by omega
theorem lp_309k {d n b s : Nat} {m O pr : Int → Int} {ss : List Int} {ln : Int} (hA : AmI K L R I m ss ln O pr n) (hb : b < n) (hs : s < 2 ^ n) (hG : ∀ s', s' < 2 ^ n → RsG I O pr n (b + 1) s') :
    ∃ e : Int, (e = 2000000000 ∨ (0 ≤ e ∧ e ≤ ((n - b : Nat) : Int) * 9990000)) ∧ (pop (2 ^ n - 1 - s) = b → e = Lv O pr n (n - b) (2 ^ n - 1 - s)) ∧ atv PR (d + 2) cd_309 34 [.ref 287, .int (w (n : Int)), .int (w (b : Int)), .int (w (s : Int)), .int (w 2000000000), .int (w 0)] [] (((vn, vc, vw, K, L, R), I, J) : HS) = atv PR (d + 2) cd_309 25 [.ref 287, .int (w (n : Int)), .int (w (b : Int)), .int (w ((s + 1 : Nat) : Int)), .int (w e), .int (w (n : Int))] [] (((vn, vc, vw, K, L, R), u2 I 301 (1024 * b + s) (w e), J) : HS) := by
  obtain ⟨h1, h2, h3, h4, h5, h6, h7⟩ := hA
  have hM := h1.1
  have hB := h1.2.2.2.2.1
  have g10 : 2 ^ n ≤ 2 ^ 10 := Nat.pow_le_pow_right (by omega) h3
  have e10 : (2 : Nat) ^ 10 = 1024 := rfl
  have gp := Nat.two_pow_pos n
  obtain ⟨E, hE⟩ : ∃ E : Nat → Int, E = fun s' => (I 301 (1024 * (b + 1) + s')).toInt := ⟨_, rfl⟩
  have eE : ∀ s', I 301 (1024 * (b + 1) + s') = w (E s') := fun s' => by rw [hE]; exact (w_of _).symm
  have rE : ∀ s', s' < 2 ^ n → (E s' = 2000000000 ∨ (0 ≤ E s' ∧ E s' ≤ ((n - (b + 1) : Nat) : Int) * 9990000)) ∧ (pop (2 ^ n - 1 - s') = b + 1 → E s' = Lv O pr n (n - (b + 1)) (2 ^ n - 1 - s')) := fun s' hs' => by
    obtain ⟨e, q1, q2, q3⟩ := hG s' hs'
    have br : ((n - (b + 1) : Nat) : Int) * 9990000 ≤ 10 * 9990000 := Int.mul_le_mul_of_nonneg_right (by omega) (by omega)
    have : E s' = e := by
      rw [hE]
      dsimp only
      rw [q1, w_toInt (by omega)]
    rw [this]
    exact ⟨q2, q3⟩
  obtain ⟨P, hP⟩ : ∃ P : Int → Bool, P = fun k => s.testBit k.toNat && !decide (E (s - 2 ^ k.toNat) = 2000000000) := ⟨_, rfl⟩
  obtain ⟨f, hf⟩ : ∃ f : Int → Int, f = fun k => O b * pr k + E (s - 2 ^ k.toNat) := ⟨_, rfl⟩
  have br : ((n - (b + 1) : Nat) : Int) * 9990000 + 9990000 = ((n - b : Nat) : Int) * 9990000 := by
    have : ((n - b : Nat) : Int) = ((n - (b + 1) : Nat) : Int) + 1 := by omega
    rw [this, Int.add_mul]
    omega
  have br2 : ((n - b : Nat) : Int) * 9990000 ≤ 10 * 9990000 := Int.mul_le_mul_of_nonneg_right (by omega) (by omega)
  have fb : ∀ k, 0 ≤ k → k < (n : Int) → P k = true → 0 ≤ f k ∧ f k ≤ ((n - b : Nat) : Int) * 9990000 := fun k k0 k1 hk => by
    rw [hP] at hk
    dsimp only at hk
    rw [Bool.and_eq_true] at hk
    have q1 := (rE (s - 2 ^ k.toNat) (Nat.lt_of_le_of_lt (Nat.sub_le _ _) hs)).1
    have q2 : E (s - 2 ^ k.toNat) ≠ 2000000000 := fun z => by
      have := hk.2
      rw [decide_eq_true z] at this
      exact nomatch this
    have q3 := h7 k k0 k1
    have q4 : 0 ≤ O b * pr k := Int.mul_nonneg (h6 _).1 q3.1
    have q5 : O b * pr k ≤ 10000 * 999 := Int.mul_le_mul (h6 _).2 q3.2 q3.1 (by omega)
    rw [hf]
    dsimp only
    rcases q1 with q1 | q1
    · exact absurd q1 q2
    · omega
  have lp : ∀ (q k : Nat) (a : Int), k + q = n → (a = 2000000000 ∨ (0 ≤ a ∧ a ≤ ((n - b : Nat) : Int) * 9990000)) → (fP (fun k a => if P k = true then min (f k) a else a) (k : Int) q a = 2000000000 ∨ (0 ≤ fP (fun k a => if P k = true then min (f k) a else a) (k : Int) q a ∧ fP (fun k a => if P k = true then min (f k) a else a) (k : Int) q a ≤ ((n - b : Nat) : Int) * 9990000)) ∧ atv PR (d + 2) cd_309 34 [.ref 287, .int (w (n : Int)), .int (w (b : Int)), .int (w (s : Int)), .int (w a), .int (w (k : Int))] [] (((vn, vc, vw, K, L, R), I, J) : HS) = atv PR (d + 2) cd_309 25 [.ref 287, .int (w (n : Int)), .int (w (b : Int)), .int (w ((s + 1 : Nat) : Int)), .int (w (fP (fun k a => if P k = true then min (f k) a else a) (k : Int) q a)), .int (w (n : Int))] [] (((vn, vc, vw, K, L, R), u2 I 301 (1024 * b + s) (w (fP (fun k a => if P k = true then min (f k) a else a) (k : Int) q a)), J) : HS) := by
    intro q
    induction q with
    | zero =>
      intro k a hk ha
      have ek : k = n := by omega
      subst ek
      refine ⟨ha, ?_⟩
      have ef : fP (fun j a => if P j = true then min (f j) a else a) (k : Int) 0 a = a := rfl
      have s306 := sp_308 (d := d + 1) (b := b) (s := s) (σ := (((vn, vc, vw, K, L, R), I, J) : HS)) (by omega) (by omega)
      have e1 : ix ((1024 * b + s : Nat) : Int) = 1024 * b + s := by unfold ix; omega
      have e2 : ((s : Int) + 1) = ((s + 1 : Nat) : Int) := by omega
      rw [ef, eq_309_34]
      simp (disch := first | assumption | omega | (simp (disch := omega) only [vM_u, vS_u]; first | assumption | omega)) only [hK, hL, hR, hI, hN, sI, hSp, hC, hW, li, lr, ↓cnd_a, ↓cnd_o, ↓cnd_n, ↓cnd_d, ↓z0, ↓z1, ↓z2, y0n, y1i, y2r, y0e, y1e, y2e, wl_0, wl_1, wl_2, wl_3, wl_4, wl_5, wl_6, wl_7, wl_8, wl_9, wl_10, wl_11, wl_12, wl_13, wl_14, wl_15, wl_16, wl_17, wl_18, wl_19, wl_20, wl_21, wl_22, wl_23, wl_24, wl_25, wl_26, wl_27, wl_28, wl_29, wl_30, wl_31, wl_32, wl_33, wl_34, wl_35, wl_36, wl_37, wl_38, wl_39, wl_40, wl_41, wl_42, wl_43, wl_44, wl_45, wl_46, wl_47, wl_48, wl_49, wl_50, wl_51, wl_52, wl_53, wl_54, wl_55, wl_56, wl_57, wl_58, wl_59, wl_60, wl_61, wl_62, wl_63, wl_64, wl_65, wl_66, wl_67, wl_68, wl_69, wl_70, wl_71, wl_72, wl_73, wl_74, wl_75, wl_76, wl_77, wl_78, wl_79, wl_80, wl_81, wl_82, wl_83, wl_84, wl_85, wl_86, wl_87, wl_88, wl_89, wl_90, wl_91, wl_92, wl_93, wl_94, wl_95, wl_96, wl_97, wl_98, wl_99, wl_100, wl_101, wl_102, wl_103, wl_104, wl_105, wl_106, wl_107, wl_108, wl_109, wl_110, wl_111, wl_112, wl_113, wl_114, wl_115, wl_116, wl_117, wl_118, wl_119, wl_120, wl_121, wl_122, wl_123, wl_124, wl_125, wl_126, wl_127, wl_128, wl_129, wl_130, wl_159, wl_160, wl_200, wl_232, wl_255, wl_256, wl_300, wl_359, wl_360, wl_400, wl_592, wl_992, wl_999, wl_1000, wl_1024, wl_3456, wl_6512, wl_7104, wl_10000, wl_11264, wl_12345, wl_32767, wl_1000000000, wl_1103515245, wl_2000000000, w_add, w_sub, w_mul, w_neg, w_lt, w_le, w_eq, w_cl, w_in, w_nat, w_max2, w_min2, w_abs2, iltT, iltF, ileT, ileF, ieqT, ieqF, bv_01, bft, bv_0, bv_1, bv_t, bv_f, cond_true, cond_false, Bool.not_true, Bool.not_false, if_true, if_false, true_or, or_true, true_and, and_true, ↓reduceIte, decide_true, decide_false, reduceCtorEq, u2_s, u2_o, u2_k, u2_u2, Bool.true_or, Bool.or_true, Bool.false_or, Bool.or_false, Bool.and_true, Bool.true_and, Bool.and_false, Bool.false_and, eq_self, not_true_eq_false, not_false_eq_true, and_self, and_true, true_and, false_and, and_false, w_dv, dvm, MSH_e hM, s306, e1, e2]
    | succ q ih =>
      intro k a hk ha
      have e1 : ((k : Int) + 1) = ((k + 1 : Nat) : Int) := by omega
      have ef : fP (fun j a => if P j = true then min (f j) a else a) (k : Int) (q + 1) a = fP (fun j a => if P j = true then min (f j) a else a) ((k + 1 : Nat) : Int) q (if P (k : Int) = true then min (f k) a else a) := by rw [← e1]; rfl
      have s305 := sp_307 (d := d + 1) (x := w (s : Int)) (h := (k : Int)) (σ := (((vn, vc, vw, K, L, R), I, J) : HS)) (by omega)
      have wt : setS (w (s : Int)) (k : Int) = s.testBit k := by
        unfold setS
        rw [show ix (k : Int) = k by unfold ix; omega]
        exact w_tst ⟨s, by omega⟩ ⟨k, by omega⟩
      rw [wt] at s305
      have ePk : P (k : Int) = (s.testBit k && !decide (E (s - 2 ^ k) = 2000000000)) := by rw [hP]; dsimp only; rw [Int.toNat_natCast]
      rw [ef, eq_309_34]
      cases c : s.testBit k with
      | false =>
        rw [c] at s305 ePk
        rw [Bool.false_and] at ePk
        rw [ePk, if_neg (by decide)]
        obtain ⟨r1, r2⟩ := ih (k + 1) a (by omega) ha
        refine ⟨r1, ?_⟩
        rw [← r2]
        simp (disch := first | assumption | omega | (simp (disch := omega) only [vM_u, vS_u]; first | assumption | omega)) only [hK, hL, hR, hI, hN, sI, hSp, hC, hW, li, lr, ↓cnd_a, ↓cnd_o, ↓cnd_n, ↓cnd_d, ↓z0, ↓z1, ↓z2, y0n, y1i, y2r, y0e, y1e, y2e, wl_0, wl_1, wl_2, wl_3, wl_4, wl_5, wl_6, wl_7, wl_8, wl_9, wl_10, wl_11, wl_12, wl_13, wl_14, wl_15, wl_16, wl_17, wl_18, wl_19, wl_20, wl_21, wl_22, wl_23, wl_24, wl_25, wl_26, wl_27, wl_28, wl_29, wl_30, wl_31, wl_32, wl_33, wl_34, wl_35, wl_36, wl_37, wl_38, wl_39, wl_40, wl_41, wl_42, wl_43, wl_44, wl_45, wl_46, wl_47, wl_48, wl_49, wl_50, wl_51, wl_52, wl_53, wl_54, wl_55, wl_56, wl_57, wl_58, wl_59, wl_60, wl_61, wl_62, wl_63, wl_64, wl_65, wl_66, wl_67, wl_68, wl_69, wl_70, wl_71, wl_72, wl_73, wl_74, wl_75, wl_76, wl_77, wl_78, wl_79, wl_80, wl_81, wl_82, wl_83, wl_84, wl_85, wl_86, wl_87, wl_88, wl_89, wl_90, wl_91, wl_92, wl_93, wl_94, wl_95, wl_96, wl_97, wl_98, wl_99, wl_100, wl_101, wl_102, wl_103, wl_104, wl_105, wl_106, wl_107, wl_108, wl_109, wl_110, wl_111, wl_112, wl_113, wl_114, wl_115, wl_116, wl_117, wl_118, wl_119, wl_120, wl_121, wl_122, wl_123, wl_124, wl_125, wl_126, wl_127, wl_128, wl_129, wl_130, wl_159, wl_160, wl_200, wl_232, wl_255, wl_256, wl_300, wl_359, wl_360, wl_400, wl_592, wl_992, wl_999, wl_1000, wl_1024, wl_3456, wl_6512, wl_7104, wl_10000, wl_11264, wl_12345, wl_32767, wl_1000000000, wl_1103515245, wl_2000000000, w_add, w_sub, w_mul, w_neg, w_lt, w_le, w_eq, w_cl, w_in, w_nat, w_max2, w_min2, w_abs2, iltT, iltF, ileT, ileF, ieqT, ieqF, bv_01, bft, bv_0, bv_1, bv_t, bv_f, cond_true, cond_false, Bool.not_true, Bool.not_false, if_true, if_false, true_or, or_true, true_and, and_true, ↓reduceIte, decide_true, decide_false, reduceCtorEq, u2_s, u2_o, u2_k, u2_u2, Bool.true_or, Bool.or_true, Bool.false_or, Bool.or_false, Bool.and_true, Bool.true_and, Bool.and_false, Bool.false_and, eq_self, not_true_eq_false, not_false_eq_true, and_self, and_true, true_and, false_and, and_false, w_dv, dvm, MSH_e hM, s305, e1]
      | true =>
        rw [c] at s305 ePk
        rw [Bool.true_and] at ePk
        have wd := w_del ⟨s, by omega⟩ ⟨k, by omega⟩ c
        have wd' : (w (s : Int) &&& ((w 1 <<< (w (k : Int) &&& w 31)) ^^^ w (-1))) = w ((s - 2 ^ k : Nat) : Int) := wd
        have hsk : s - 2 ^ k < 2 ^ n := Nat.lt_of_le_of_lt (Nat.sub_le _ _) hs
        have s306 := sp_308 (d := d + 1) (b := b + 1) (s := s - 2 ^ k) (σ := (((vn, vc, vw, K, L, R), I, J) : HS)) (by omega) (by omega)
        have eb1 : ((b + 1 : Nat) : Int) = (b : Int) + 1 := by omega
        rw [eb1] at s306
        have ei : ix ((1024 * (b + 1) + (s - 2 ^ k) : Nat) : Int) = 1024 * (b + 1) + (s - 2 ^ k) := by unfold ix; omega
        have hb11 : 1024 * (b + 1) + (s - 2 ^ k) < 11264 := by omega
        have rr := (rE (s - 2 ^ k) hsk).1
        by_cases c2 : E (s - 2 ^ k) = 2000000000
        · rw [decide_eq_true c2] at ePk
          rw [ePk, Bool.not_true, if_neg (by decide)]
          obtain ⟨r1, r2⟩ := ih (k + 1) a (by omega) ha
          refine ⟨r1, ?_⟩
          have ee := eE (s - 2 ^ k)
          rw [c2] at ee
          rw [← r2]
          simp (disch := first | assumption | omega | (simp (disch := omega) only [vM_u, vS_u]; first | assumption | omega)) only [hK, hL, hR, hI, hN, sI, hSp, hC, hW, li, lr, ↓cnd_a, ↓cnd_o, ↓cnd_n, ↓cnd_d, ↓z0, ↓z1, ↓z2, y0n, y1i, y2r, y0e, y1e, y2e, wl_0, wl_1, wl_2, wl_3, wl_4, wl_5, wl_6, wl_7, wl_8, wl_9, wl_10, wl_11, wl_12, wl_13, wl_14, wl_15, wl_16, wl_17, wl_18, wl_19, wl_20, wl_21, wl_22, wl_23, wl_24, wl_25, wl_26, wl_27, wl_28, wl_29, wl_30, wl_31, wl_32, wl_33, wl_34, wl_35, wl_36, wl_37, wl_38, wl_39, wl_40, wl_41, wl_42, wl_43, wl_44, wl_45, wl_46, wl_47, wl_48, wl_49, wl_50, wl_51, wl_52, wl_53, wl_54, wl_55, wl_56, wl_57, wl_58, wl_59, wl_60, wl_61, wl_62, wl_63, wl_64, wl_65, wl_66, wl_67, wl_68, wl_69, wl_70, wl_71, wl_72, wl_73, wl_74, wl_75, wl_76, wl_77, wl_78, wl_79, wl_80, wl_81, wl_82, wl_83, wl_84, wl_85, wl_86, wl_87, wl_88, wl_89, wl_90, wl_91, wl_92, wl_93, wl_94, wl_95, wl_96, wl_97, wl_98, wl_99, wl_100, wl_101, wl_102, wl_103, wl_104, wl_105, wl_106, wl_107, wl_108, wl_109, wl_110, wl_111, wl_112, wl_113, wl_114, wl_115, wl_116, wl_117, wl_118, wl_119, wl_120, wl_121, wl_122, wl_123, wl_124, wl_125, wl_126, wl_127, wl_128, wl_129, wl_130, wl_159, wl_160, wl_200, wl_232, wl_255, wl_256, wl_300, wl_359, wl_360, wl_400, wl_592, wl_992, wl_999, wl_1000, wl_1024, wl_3456, wl_6512, wl_7104, wl_10000, wl_11264, wl_12345, wl_32767, wl_1000000000, wl_1103515245, wl_2000000000, w_add, w_sub, w_mul, w_neg, w_lt, w_le, w_eq, w_cl, w_in, w_nat, w_max2, w_min2, w_abs2, iltT, iltF, ileT, ileF, ieqT, ieqF, bv_01, bft, bv_0, bv_1, bv_t, bv_f, cond_true, cond_false, Bool.not_true, Bool.not_false, if_true, if_false, true_or, or_true, true_and, and_true, ↓reduceIte, decide_true, decide_false, reduceCtorEq, u2_s, u2_o, u2_k, u2_u2, Bool.true_or, Bool.or_true, Bool.false_or, Bool.or_false, Bool.and_true, Bool.true_and, Bool.and_false, Bool.false_and, eq_self, not_true_eq_false, not_false_eq_true, and_self, and_true, true_and, false_and, and_false, w_dv, dvm, MSH_e hM, s305, wd', s306, ei, ee, e1]
        · rw [decide_eq_false c2] at ePk
          have hPk : P (k : Int) = true := by rw [ePk]; rfl
          have fbk := fb k (by omega) (by omega) hPk
          rw [hPk, if_pos rfl]
          obtain ⟨r1, r2⟩ := ih (k + 1) (min (f k) a) (by omega) (by omega)
          refine ⟨r1, ?_⟩
          have efk : f (k : Int) = O b * pr k + E (s - 2 ^ k) := by rw [hf]; dsimp only; rw [Int.toNat_natCast]
          have ee := eE (s - 2 ^ k)
          have s221 := sp_223 (d := d + 1) (b := (k : Int)) (j := 3) (I := I) (vn := vn) (vc := vc) (vw := vw) (J := J) hM (by rw [h1.2.2.2.1]; omega)
          rw [h1.2.2.2.1, h5 k (by omega) (by omega)] at s221
          have i296 := h4 b (by omega)
          have eib : ix (b : Int) = b := by unfold ix; omega
          have emin : min (f k) a = min a (O b * pr k + E (s - 2 ^ k)) := by rw [efk, Int.min_comm]
          have s217 := sp_219 (d := d + 1) (σ := (((vn, vc, vw, K, L, R), I, J) : HS)) (a := a) (b := O b * pr k + E (s - 2 ^ k)) (by rw [efk] at fbk; omega)
          rw [← r2, emin]
          simp (disch := first | assumption | omega | (simp (disch := omega) only [vM_u, vS_u]; first | assumption | omega)) only [hK, hL, hR, hI, hN, sI, hSp, hC, hW, li, lr, ↓cnd_a, ↓cnd_o, ↓cnd_n, ↓cnd_d, ↓z0, ↓z1, ↓z2, y0n, y1i, y2r, y0e, y1e, y2e, wl_0, wl_1, wl_2, wl_3, wl_4, wl_5, wl_6, wl_7, wl_8, wl_9, wl_10, wl_11, wl_12, wl_13, wl_14, wl_15, wl_16, wl_17, wl_18, wl_19, wl_20, wl_21, wl_22, wl_23, wl_24, wl_25, wl_26, wl_27, wl_28, wl_29, wl_30, wl_31, wl_32, wl_33, wl_34, wl_35, wl_36, wl_37, wl_38, wl_39, wl_40, wl_41, wl_42, wl_43, wl_44, wl_45, wl_46, wl_47, wl_48, wl_49, wl_50, wl_51, wl_52, wl_53, wl_54, wl_55, wl_56, wl_57, wl_58, wl_59, wl_60, wl_61, wl_62, wl_63, wl_64, wl_65, wl_66, wl_67, wl_68, wl_69, wl_70, wl_71, wl_72, wl_73, wl_74, wl_75, wl_76, wl_77, wl_78, wl_79, wl_80, wl_81, wl_82, wl_83, wl_84, wl_85, wl_86, wl_87, wl_88, wl_89, wl_90, wl_91, wl_92, wl_93, wl_94, wl_95, wl_96, wl_97, wl_98, wl_99, wl_100, wl_101, wl_102, wl_103, wl_104, wl_105, wl_106, wl_107, wl_108, wl_109, wl_110, wl_111, wl_112, wl_113, wl_114, wl_115, wl_116, wl_117, wl_118, wl_119, wl_120, wl_121, wl_122, wl_123, wl_124, wl_125, wl_126, wl_127, wl_128, wl_129, wl_130, wl_159, wl_160, wl_200, wl_232, wl_255, wl_256, wl_300, wl_359, wl_360, wl_400, wl_592, wl_992, wl_999, wl_1000, wl_1024, wl_3456, wl_6512, wl_7104, wl_10000, wl_11264, wl_12345, wl_32767, wl_1000000000, wl_1103515245, wl_2000000000, w_add, w_sub, w_mul, w_neg, w_lt, w_le, w_eq, w_cl, w_in, w_nat, w_max2, w_min2, w_abs2, iltT, iltF, ileT, ileF, ieqT, ieqF, bv_01, bft, bv_0, bv_1, bv_t, bv_f, cond_true, cond_false, Bool.not_true, Bool.not_false, if_true, if_false, true_or, or_true, true_and, and_true, ↓reduceIte, decide_true, decide_false, reduceCtorEq, u2_s, u2_o, u2_k, u2_u2, Bool.true_or, Bool.or_true, Bool.false_or, Bool.or_false, Bool.and_true, Bool.true_and, Bool.and_false, Bool.false_and, eq_self, not_true_eq_false, not_false_eq_true, and_self, and_true, true_and, false_and, and_false, w_dv, dvm, MSH_e hM, s305, wd', s306, ei, ee, s221, eib, i296, s217, e1]
  obtain ⟨r1, r2⟩ := lp n 0 2000000000 (by omega) (Or.inl rfl)
  have e0 : ((0 : Nat) : Int) = 0 := rfl
  rw [e0] at r1 r2
  refine ⟨_, r1, fun hp => ?_, r2⟩
  have hm := fP_minS (S := P) (f := f) n 0 2000000000
  obtain ⟨g, eg⟩ : ∃ g, g = 2 ^ n - 1 - s := ⟨_, rfl⟩
  have hg : g < 2 ^ n := by omega
  rw [← eg] at hp ⊢
  have hbits : ∀ k, k < n → g.testBit k = !s.testBit k := fun k hk => by rw [eg]; exact cmp_b hs hk
  obtain ⟨L1, k0, ⟨k1, k2⟩, L2⟩ := Lv_s (O := O) (pr := pr) (r := n - b - 1) h3 hg (by rw [hp]; exact sub_1 hb) h6 h7 (fun g' a c => Lv_b h3 h6 h7 _ g' a c)
  rw [show n - b - 1 + 1 = n - b by omega, hp] at L1 L2
  have val : ∀ k, k < n → g.testBit k = false → P (k : Int) = true ∧ f (k : Int) = O b * pr k + Lv O pr n (n - b - 1) (g + 2 ^ k) := fun k q1 q2 => by
    have q3 : s.testBit k = true := by
      have := hbits k q1
      rw [q2] at this
      cases c : s.testBit k with
      | true => rfl
      | false => rw [c] at this; exact nomatch this
    have q4 := tb_ge q3
    have q5 := pop_s h3 hg q1 q2
    have q6 : 2 ^ n - 1 - (s - 2 ^ k) = g + 2 ^ k := by omega
    have q7 := (rE (s - 2 ^ k) (Nat.lt_of_le_of_lt (Nat.sub_le _ _) hs)).2
    rw [q6] at q7
    have q8 := q7 (by rw [q5.2.1, hp])
    rw [show n - (b + 1) = n - b - 1 by omega] at q8
    have q9 := Lv_b h3 h6 h7 (n - b - 1) (g + 2 ^ k) q5.1 (by rw [q5.2.1, hp]; exact sub_2 hb)
    have br3 : ((n - b - 1 : Nat) : Int) * 9990000 ≤ 10 * 9990000 := Int.mul_le_mul_of_nonneg_right (by omega) (by omega)
    constructor
    · rw [hP]
      dsimp only
      rw [Int.toNat_natCast, q3, Bool.true_and, decide_eq_false (by omega)]
      rfl
    · rw [hf]
      dsimp only
      rw [Int.toNat_natCast, q8]
  have v0 := val k0 k1 k2
  have t1 := hm.1.2 (k0 : Int) (by omega) (by omega) v0.1
  rw [v0.2, ← L2] at t1
  have bL := Lv_b h3 h6 h7 (n - b) g hg (by rw [hp]; exact sub_3 hb)
  rcases hm.2 with t2 | ⟨j, j1, j2⟩
  · omega
  · have ej : ((j.toNat : Nat) : Int) = j := by omega
    have jb : g.testBit j.toNat = false := by
      have q1 := j1.2.2
      rw [hP] at q1
      dsimp only at q1
      rw [Bool.and_eq_true] at q1
      rw [hbits _ (by omega), q1.1]
      rfl
    have v1 := val j.toNat (by omega) jb
    rw [ej] at v1
    have t3 := L1 j.toNat (by omega) jb
    rw [ej, ← v1.2, ← j2] at t3
    omega
end ARM
