/-! the past of the class -/
def slN (nx j : Int) : Nat := 129 + 12 * ((nx + 23 - j) % 12).toNat
/-- references change only where a stall names its law -/
def RS (R R' : Nat → Nat → Nat) : Prop := ∀ a k, ¬(k = 10 ∧ (a = 91 ∨ a = 103 ∨ a = 115 ∨ (129 ≤ a ∧ a < 273))) → R' a k = R a k
theorem RS_rf {R : Nat → Nat → Nat} : RS R R := fun _ _ _ => rfl
theorem RS_tr {R R1 R2 : Nat → Nat → Nat} (h : RS R R1) (g : RS R1 R2) : RS R R2 := fun a k x => (g a k x).trans (h a k x)
theorem RS_u {R : Nat → Nat → Nat} {q v : Nat} (h : q = 91 ∨ q = 103 ∨ q = 115 ∨ (129 ≤ q ∧ q < 273)) : RS R (u2 R q 10 v) := fun a k x => by
  rw [u2_r, if_neg]
  rintro ⟨y, z⟩
  exact x ⟨z, by omega⟩
theorem RQ_S {R R' : Nat → Nat → Nat} (h : RS R R') : RQ R R' := fun a k x => h a k (by omega)
/-- the ring of stalls; P j the j-th latest -/
def PX (K L : Nat → Nat) (R : Nat → Nat → Nat) (I : Nat → Nat → Int32) (n nx : Int) (P : Int → Int → Int) : Prop :=
  (I 127 1 = w nx ∧ 0 ≤ nx ∧ nx < 12) ∧ (I 127 2 = w n ∧ 0 ≤ n ∧ n ≤ 12) ∧
  (∀ i : Nat, i < 12 → R 128 i = 129 + 12 * i ∧ SHq K L R (129 + 12 * i) ∧ Wd I (129 + 12 * i)) ∧
  ∀ j, 0 ≤ j → j < n → vS I (slN nx j) = P j ∧ R (slN nx j) 10 = R 91 10
theorem PX_f {I' : Nat → Nat → Int32} {K L : Nat → Nat} {R : Nat → Nat → Nat} {I : Nat → Nat → Int32} {n nx : Int} {P : Int → Int → Int} (h : ∀ a k, 127 ≤ a → a < 273 → I' a k = I a k) (g : PX K L R I n nx P) : PX K L R I' n nx P := by
  obtain ⟨g1, g2, g3, g4⟩ := g
  refine ⟨by rw [h _ _ (by omega) (by omega)]; exact g1, by rw [h _ _ (by omega) (by omega)]; exact g2, fun i hi => ?_, fun j a b => ?_⟩
  · obtain ⟨y1, y2, y3⟩ := g3 i hi
    exact ⟨y1, y2, Wd_f' (fun a x => h _ _ (by omega) (by omega)) y3⟩
  · obtain ⟨y1, y2⟩ := g4 j a b
    refine ⟨?_, y2⟩
    rw [← y1]
    unfold slN
    exact vS_f' (fun a k x1 x2 x3 => h _ _ (by omega) (by omega))
theorem PX_r {K L : Nat → Nat} {R R' : Nat → Nat → Nat} {I : Nat → Nat → Int32} {n nx : Int} {P : Int → Int → Int} (h : ∀ a k, ¬((91 < a ∧ a < 128) ∨ 273 ≤ a) → R' a k = R a k) (g : PX K L R I n nx P) : PX K L R' I n nx P := by
  obtain ⟨g1, g2, g3, g4⟩ := g
  refine ⟨g1, g2, fun i hi => ?_, fun j a b => ?_⟩
  · obtain ⟨y1, y2, y3⟩ := g3 i hi
    refine ⟨by rw [h _ _ (by omega)]; exact y1, ?_, y3⟩
    unfold SHq at y2 ⊢
    simp (disch := omega) only [h]
    exact y2
  · obtain ⟨y1, y2⟩ := g4 j a b
    refine ⟨y1, ?_⟩
    rw [h 91 10 (by omega), h _ _ (by unfold slN; omega)]
    exact y2
theorem slN_ne {nx j k : Int} (h : (0 ≤ nx ∧ nx < 12) ∧ (0 ≤ j ∧ j < 12) ∧ 0 ≤ k ∧ k < 12) (hjk : j ≠ k) : slN nx j + 12 ≤ slN nx k ∨ slN nx k + 12 ≤ slN nx j := by
  unfold slN
  omega
theorem slN_s {nx j : Int} (h : (0 ≤ nx ∧ nx < 12) ∧ 0 ≤ j ∧ j < 12) : slN ((nx + 1) % 12) (j + 1) = slN nx j := by
  unfold slN
  have : (nx + 1) % 12 = if nx = 11 then 0 else nx + 1 := by split <;> omega
  rw [this]
  split <;> omega
section PST
variable {vn vc vw : Nat} {K L : Nat → Nat} {R : Nat → Nat → Nat} {I : Nat → Nat → Int32} {J : Nat → Nat → Int64}
/-- what the past's calls leave alone -/
def FP (I I' : Nat → Nat → Int32) : Prop := ∀ a k, a < 127 ∨ 273 ≤ a → I' a k = I a k
theorem sp_64 {d : Nat} {n nx : Int} {P : Int → Int → Int} (hX : XSH K L R) (hS : SHq K L R 91) (hWd : Wd I 91) (hz : SzB (vS I 91)) (hp : PX K L R I n nx P) :
    ∃ R' I', ev PR (d + 3) 64 [.ref 127, .ref 91] (((vn, vc, vw, K, L, R), I, J) : HS) = some (.inl none, (((vn, vc, vw, K, L, R'), I', J) : HS)) ∧ PX K L R' I' (min (n + 1) 12) ((nx + 1) % 12) (fun j => if j = 0 then vS I 91 else P (j - 1)) ∧ FP I I' ∧ RS R R' ∧ ∀ a, a = 91 ∨ a = 103 ∨ a = 115 → R' a 10 = R a 10 := by
  obtain ⟨⟨g1, g1'⟩, ⟨g2, g2'⟩, g3, g4⟩ := id hp
  obtain ⟨i, hi⟩ : ∃ i : Nat, nx = (i : Int) := ⟨nx.toNat, by omega⟩
  obtain ⟨y1, y2, y3⟩ := g3 i (by omega)
  obtain ⟨q, hq⟩ : ∃ q, q = 129 + 12 * i := ⟨_, rfl⟩
  rw [← hq] at y1 y2 y3
  obtain ⟨I1, x1, x2, x3, x4⟩ := sp_104 (d := d) (q0 := q) (q1 := 91) (vn := vn) (vc := vc) (vw := vw) (J := J) y2 hS hWd (by omega) hz
  obtain ⟨R', hR'⟩ : ∃ R', R' = u2 R q 10 (R 91 10) := ⟨_, rfl⟩
  rw [← hR'] at x1
  have rs : RS R R' := by rw [hR']; exact RS_u (by omega)
  have kq : K q = 9 := y2.1
  have f1 : I1 127 1 = w nx := by rw [x4 _ _ (by omega)]; exact g1
  have f2 : I1 127 2 = w n := by rw [x4 _ _ (by omega)]; exact g2
  obtain ⟨I2, hI2⟩ : ∃ I2, I2 = u2 (u2 I1 127 1 (w ((nx + 1) % 12))) 127 2 (w (min (n + 1) 12)) := ⟨_, rfl⟩
  have f3 : ∀ a k, a ≠ 127 → I2 a k = I1 a k := fun a k z => by rw [hI2, u2_o _ _ _ _ z, u2_o _ _ _ _ z]
  have R128 : ∀ k, R' 128 k = R 128 k := fun k => rs 128 k (by omega)
  have eix : ix nx = i := by unfold ix; omega
  have y1' : R 128 (ix nx) = q := by rw [eix]; exact y1
  have y1'' : R' 128 (ix nx) = q := by rw [R128]; exact y1'
  have hX' : XSH K L R' := XSH_r (RQ_S rs) hX
  refine ⟨R', I2, ?_, ?_, ?_, rs, fun a x => by rw [hR', u2_r, if_neg (by omega)]⟩
  · have qn : q ≠ 0 := by omega
    rw [eq_64, hI2]
    simp (disch := first | assumption | omega | (simp (disch := omega) only [vM_u, vS_u]; first | assumption | omega)) only [hK, hL, hR, hI, hN, sI, hSp, hC, hW, li, lr, ↓cnd_a, ↓cnd_o, ↓cnd_n, ↓cnd_d, ↓z0, ↓z1, ↓z2, y0n, y1i, y2r, y0e, y1e, y2e, wl_0, wl_1, wl_2, wl_3, wl_4, wl_5, wl_6, wl_7, wl_8, wl_9, wl_10, wl_11, wl_12, wl_13, wl_14, wl_15, wl_16, wl_17, wl_18, wl_19, wl_20, wl_21, wl_22, wl_23, wl_24, wl_25, wl_26, wl_27, wl_28, wl_29, wl_30, wl_31, wl_32, wl_33, wl_34, wl_35, wl_36, wl_37, wl_38, wl_39, wl_40, wl_41, wl_42, wl_43, wl_44, wl_45, wl_46, wl_47, wl_48, wl_49, wl_50, wl_51, wl_52, wl_53, wl_54, wl_55, wl_56, wl_57, wl_58, wl_59, wl_60, wl_61, wl_62, wl_63, wl_64, wl_65, wl_66, wl_67, wl_68, wl_69, wl_70, wl_71, wl_72, wl_73, wl_74, wl_75, wl_76, wl_77, wl_78, wl_79, wl_80, wl_81, wl_82, wl_83, wl_84, wl_85, wl_86, wl_87, wl_88, wl_89, wl_90, wl_91, wl_92, wl_93, wl_94, wl_95, wl_96, wl_97, wl_98, wl_99, wl_100, wl_101, wl_102, wl_103, wl_104, wl_105, wl_106, wl_107, wl_108, wl_109, wl_110, wl_111, wl_112, wl_113, wl_114, wl_115, wl_116, wl_117, wl_118, wl_119, wl_120, wl_121, wl_122, wl_123, wl_124, wl_125, wl_126, wl_127, wl_128, wl_129, wl_130, wl_159, wl_160, wl_200, wl_232, wl_255, wl_256, wl_300, wl_359, wl_360, wl_400, wl_592, wl_992, wl_999, wl_1000, wl_1024, wl_3456, wl_6512, wl_7104, wl_10000, wl_11264, wl_12345, wl_32767, wl_1000000000, wl_1103515245, wl_2000000000, w_add, w_sub, w_mul, w_neg, w_lt, w_le, w_eq, w_cl, w_in, w_nat, w_max2, w_min2, w_abs2, iltT, iltF, ileT, ileF, ieqT, ieqF, bv_01, bft, bv_0, bv_1, bv_t, bv_f, cond_true, cond_false, Bool.not_true, Bool.not_false, if_true, if_false, true_or, or_true, true_and, and_true, ↓reduceIte, decide_true, decide_false, reduceCtorEq, u2_s, u2_o, u2_k, u2_u2, Bool.true_or, Bool.or_true, Bool.false_or, Bool.or_false, Bool.and_true, Bool.true_and, Bool.and_false, Bool.false_and, eq_self, not_true_eq_false, not_false_eq_true, and_self, and_true, true_and, false_and, and_false, w_dv, dvm, XSH_e hX, g1, y1', kq, x1, XSH_e hX', f1, f2]
    rw [if_neg qn]
  · have e1 : I2 127 1 = w ((nx + 1) % 12) := by rw [hI2, u2_k _ _ _ _ (by decide), u2_s]
    have e2 : I2 127 2 = w (min (n + 1) 12) := by rw [hI2, u2_s]
    have en : slN ((nx + 1) % 12) 0 = q := by unfold slN; omega
    refine ⟨⟨e1, by omega, by omega⟩, ⟨e2, by omega, by omega⟩, fun j hj => ?_, fun j a b => ?_⟩
    · obtain ⟨z1', z2', z3⟩ := g3 j hj
      refine ⟨by rw [R128]; exact z1', SHq_r (RQ_S rs) z2', ?_⟩
      refine Wd_f' (fun a x => ?_) (by
        by_cases e : 129 + 12 * j = q
        · rw [e]; exact x3 y3
        · exact Wd_f' (fun a x => x4 _ _ (by omega)) z3)
      exact f3 _ _ (by omega)
    · have vf : ∀ s, 129 ≤ s → vS I2 s = vS I1 s := fun s hs => vS_f' (fun a k u1 u2 u3 => f3 _ _ (by omega))
      by_cases ej : j = 0
      · subst ej
        dsimp only
        rw [en, if_pos rfl, vf q (by omega), x2, hR', u2_s, u2_r, if_neg (by omega)]
        exact ⟨rfl, rfl⟩
      · dsimp only
        rw [if_neg ej]
        obtain ⟨u1, u2'⟩ := g4 (j - 1) (by omega) (by omega)
        have es : slN ((nx + 1) % 12) j = slN nx (j - 1) := by
          have := slN_s (nx := nx) (j := j - 1) (by omega)
          rw [← this, show j - 1 + 1 = j by omega]
        have hne : slN nx (j - 1) + 12 ≤ q ∨ q + 12 ≤ slN nx (j - 1) := by
          unfold slN
          omega
        have hlo : 129 ≤ slN nx (j - 1) := by unfold slN; omega
        rw [es, vf _ hlo, hR', u2_r, if_neg (by omega), u2_r, if_neg (by omega)]
        refine ⟨?_, u2'⟩
        rw [← u1]
        exact vS_f' (fun a k v1 v2 v3 => x4 _ _ (by omega))
  · intro a k z
    rw [f3 _ _ (by omega), x4 _ _ (by omega)]
theorem sp_66 {d : Nat} (hX : XSH K L R) : ev PR (d + 1) 66 [.ref 127] (((vn, vc, vw, K, L, R), I, J) : HS) = some (.inl none, (((vn, vc, vw, K, L, R), u2 I 127 2 (w 0), J) : HS)) := by
  rw [eq_66]
  simp (disch := first | assumption | omega | (simp (disch := omega) only [vM_u, vS_u]; first | assumption | omega)) only [hK, hL, hR, hI, hN, sI, hSp, hC, hW, li, lr, ↓cnd_a, ↓cnd_o, ↓cnd_n, ↓cnd_d, ↓z0, ↓z1, ↓z2, y0n, y1i, y2r, y0e, y1e, y2e, wl_0, wl_1, wl_2, wl_3, wl_4, wl_5, wl_6, wl_7, wl_8, wl_9, wl_10, wl_11, wl_12, wl_13, wl_14, wl_15, wl_16, wl_17, wl_18, wl_19, wl_20, wl_21, wl_22, wl_23, wl_24, wl_25, wl_26, wl_27, wl_28, wl_29, wl_30, wl_31, wl_32, wl_33, wl_34, wl_35, wl_36, wl_37, wl_38, wl_39, wl_40, wl_41, wl_42, wl_43, wl_44, wl_45, wl_46, wl_47, wl_48, wl_49, wl_50, wl_51, wl_52, wl_53, wl_54, wl_55, wl_56, wl_57, wl_58, wl_59, wl_60, wl_61, wl_62, wl_63, wl_64, wl_65, wl_66, wl_67, wl_68, wl_69, wl_70, wl_71, wl_72, wl_73, wl_74, wl_75, wl_76, wl_77, wl_78, wl_79, wl_80, wl_81, wl_82, wl_83, wl_84, wl_85, wl_86, wl_87, wl_88, wl_89, wl_90, wl_91, wl_92, wl_93, wl_94, wl_95, wl_96, wl_97, wl_98, wl_99, wl_100, wl_101, wl_102, wl_103, wl_104, wl_105, wl_106, wl_107, wl_108, wl_109, wl_110, wl_111, wl_112, wl_113, wl_114, wl_115, wl_116, wl_117, wl_118, wl_119, wl_120, wl_121, wl_122, wl_123, wl_124, wl_125, wl_126, wl_127, wl_128, wl_129, wl_130, wl_159, wl_160, wl_200, wl_232, wl_255, wl_256, wl_300, wl_359, wl_360, wl_400, wl_592, wl_992, wl_999, wl_1000, wl_1024, wl_3456, wl_6512, wl_7104, wl_10000, wl_11264, wl_12345, wl_32767, wl_1000000000, wl_1103515245, wl_2000000000, w_add, w_sub, w_mul, w_neg, w_lt, w_le, w_eq, w_cl, w_in, w_nat, w_max2, w_min2, w_abs2, iltT, iltF, ileT, ileF, ieqT, ieqF, bv_01, bft, bv_0, bv_1, bv_t, bv_f, cond_true, cond_false, Bool.not_true, Bool.not_false, if_true, if_false, true_or, or_true, true_and, and_true, ↓reduceIte, decide_true, decide_false, reduceCtorEq, u2_s, u2_o, u2_k, u2_u2, Bool.true_or, Bool.or_true, Bool.false_or, Bool.or_false, Bool.and_true, Bool.true_and, Bool.and_false, Bool.false_and, eq_self, not_true_eq_false, not_false_eq_true, and_self, and_true, true_and, false_and, and_false, w_dv, dvm, XSH_e hX]
theorem sp_63 {d : Nat} {n : Int} (hX : XSH K L R) (h : I 127 2 = w n) : ev PR (d + 1) 63 [.ref 127] (((vn, vc, vw, K, L, R), I, J) : HS) = some (.inl (some (.int (w n))), (((vn, vc, vw, K, L, R), I, J) : HS)) := by
  rw [eq_63]
  simp (disch := first | assumption | omega | (simp (disch := omega) only [vM_u, vS_u]; first | assumption | omega)) only [hK, hL, hR, hI, hN, sI, hSp, hC, hW, li, lr, ↓cnd_a, ↓cnd_o, ↓cnd_n, ↓cnd_d, ↓z0, ↓z1, ↓z2, y0n, y1i, y2r, y0e, y1e, y2e, wl_0, wl_1, wl_2, wl_3, wl_4, wl_5, wl_6, wl_7, wl_8, wl_9, wl_10, wl_11, wl_12, wl_13, wl_14, wl_15, wl_16, wl_17, wl_18, wl_19, wl_20, wl_21, wl_22, wl_23, wl_24, wl_25, wl_26, wl_27, wl_28, wl_29, wl_30, wl_31, wl_32, wl_33, wl_34, wl_35, wl_36, wl_37, wl_38, wl_39, wl_40, wl_41, wl_42, wl_43, wl_44, wl_45, wl_46, wl_47, wl_48, wl_49, wl_50, wl_51, wl_52, wl_53, wl_54, wl_55, wl_56, wl_57, wl_58, wl_59, wl_60, wl_61, wl_62, wl_63, wl_64, wl_65, wl_66, wl_67, wl_68, wl_69, wl_70, wl_71, wl_72, wl_73, wl_74, wl_75, wl_76, wl_77, wl_78, wl_79, wl_80, wl_81, wl_82, wl_83, wl_84, wl_85, wl_86, wl_87, wl_88, wl_89, wl_90, wl_91, wl_92, wl_93, wl_94, wl_95, wl_96, wl_97, wl_98, wl_99, wl_100, wl_101, wl_102, wl_103, wl_104, wl_105, wl_106, wl_107, wl_108, wl_109, wl_110, wl_111, wl_112, wl_113, wl_114, wl_115, wl_116, wl_117, wl_118, wl_119, wl_120, wl_121, wl_122, wl_123, wl_124, wl_125, wl_126, wl_127, wl_128, wl_129, wl_130, wl_159, wl_160, wl_200, wl_232, wl_255, wl_256, wl_300, wl_359, wl_360, wl_400, wl_592, wl_992, wl_999, wl_1000, wl_1024, wl_3456, wl_6512, wl_7104, wl_10000, wl_11264, wl_12345, wl_32767, wl_1000000000, wl_1103515245, wl_2000000000, w_add, w_sub, w_mul, w_neg, w_lt, w_le, w_eq, w_cl, w_in, w_nat, w_max2, w_min2, w_abs2, iltT, iltF, ileT, ileF, ieqT, ieqF, bv_01, bft, bv_0, bv_1, bv_t, bv_f, cond_true, cond_false, Bool.not_true, Bool.not_false, if_true, if_false, true_or, or_true, true_and, and_true, ↓reduceIte, decide_true, decide_false, reduceCtorEq, u2_s, u2_o, u2_k, u2_u2, Bool.true_or, Bool.or_true, Bool.false_or, Bool.or_false, Bool.and_true, Bool.true_and, Bool.and_false, Bool.false_and, eq_self, not_true_eq_false, not_false_eq_true, and_self, and_true, true_and, false_and, and_false, w_dv, dvm, XSH_e hX, h]
theorem sp_65z {d : Nat} {nx : Int} {P : Int → Int → Int} (hX : XSH K L R) (hp : PX K L R I 0 nx P) : ev PR (d + 3) 65 [.ref 127, .ref 91] (((vn, vc, vw, K, L, R), I, J) : HS) = some (.inl (some (.int (w 0))), (((vn, vc, vw, K, L, R), I, J) : HS)) := by
  obtain ⟨⟨g1, g1'⟩, ⟨g2, g2'⟩, g3, g4⟩ := id hp
  rw [eq_65]
  simp (disch := first | assumption | omega | (simp (disch := omega) only [vM_u, vS_u]; first | assumption | omega)) only [hK, hL, hR, hI, hN, sI, hSp, hC, hW, li, lr, ↓cnd_a, ↓cnd_o, ↓cnd_n, ↓cnd_d, ↓z0, ↓z1, ↓z2, y0n, y1i, y2r, y0e, y1e, y2e, wl_0, wl_1, wl_2, wl_3, wl_4, wl_5, wl_6, wl_7, wl_8, wl_9, wl_10, wl_11, wl_12, wl_13, wl_14, wl_15, wl_16, wl_17, wl_18, wl_19, wl_20, wl_21, wl_22, wl_23, wl_24, wl_25, wl_26, wl_27, wl_28, wl_29, wl_30, wl_31, wl_32, wl_33, wl_34, wl_35, wl_36, wl_37, wl_38, wl_39, wl_40, wl_41, wl_42, wl_43, wl_44, wl_45, wl_46, wl_47, wl_48, wl_49, wl_50, wl_51, wl_52, wl_53, wl_54, wl_55, wl_56, wl_57, wl_58, wl_59, wl_60, wl_61, wl_62, wl_63, wl_64, wl_65, wl_66, wl_67, wl_68, wl_69, wl_70, wl_71, wl_72, wl_73, wl_74, wl_75, wl_76, wl_77, wl_78, wl_79, wl_80, wl_81, wl_82, wl_83, wl_84, wl_85, wl_86, wl_87, wl_88, wl_89, wl_90, wl_91, wl_92, wl_93, wl_94, wl_95, wl_96, wl_97, wl_98, wl_99, wl_100, wl_101, wl_102, wl_103, wl_104, wl_105, wl_106, wl_107, wl_108, wl_109, wl_110, wl_111, wl_112, wl_113, wl_114, wl_115, wl_116, wl_117, wl_118, wl_119, wl_120, wl_121, wl_122, wl_123, wl_124, wl_125, wl_126, wl_127, wl_128, wl_129, wl_130, wl_159, wl_160, wl_200, wl_232, wl_255, wl_256, wl_300, wl_359, wl_360, wl_400, wl_592, wl_992, wl_999, wl_1000, wl_1024, wl_3456, wl_6512, wl_7104, wl_10000, wl_11264, wl_12345, wl_32767, wl_1000000000, wl_1103515245, wl_2000000000, w_add, w_sub, w_mul, w_neg, w_lt, w_le, w_eq, w_cl, w_in, w_nat, w_max2, w_min2, w_abs2, iltT, iltF, ileT, ileF, ieqT, ieqF, bv_01, bft, bv_0, bv_1, bv_t, bv_f, cond_true, cond_false, Bool.not_true, Bool.not_false, if_true, if_false, true_or, or_true, true_and, and_true, ↓reduceIte, decide_true, decide_false, reduceCtorEq, u2_s, u2_o, u2_k, u2_u2, Bool.true_or, Bool.or_true, Bool.false_or, Bool.or_false, Bool.and_true, Bool.true_and, Bool.and_false, Bool.false_and, eq_self, not_true_eq_false, not_false_eq_true, and_self, and_true, true_and, false_and, and_false, w_dv, dvm, XSH_e hX, g1, g2]
theorem sp_65 {d : Nat} {n nx : Int} {P : Int → Int → Int} (hX : XSH K L R) (hS : SHq K L R 91) (hWd : Wd I 91) (hn : 0 < n) (hz : SzB (P 0)) (hp : PX K L R I n nx P) :
    ∃ I' R', ev PR (d + 3) 65 [.ref 127, .ref 91] (((vn, vc, vw, K, L, R), I, J) : HS) = some (.inl (some (.int (w 1))), (((vn, vc, vw, K, L, R'), I', J) : HS)) ∧ PX K L R' I' (n - 1) ((nx + 11) % 12) (fun j => P (j + 1)) ∧ vS I' 91 = P 0 ∧ Wd I' 91 ∧ (∀ a k, ¬(91 ≤ a ∧ a ≤ 101) → a ≠ 127 → I' a k = I a k) ∧ (∀ a k, R' a k = R a k) := by
  obtain ⟨⟨g1, g1'⟩, ⟨g2, g2'⟩, g3, g4⟩ := id hp
  obtain ⟨i, hi⟩ : ∃ i : Nat, (nx + 11) % 12 = (i : Int) := ⟨((nx + 11) % 12).toNat, by omega⟩
  obtain ⟨y1, y2, y3⟩ := g3 i (by omega)
  obtain ⟨q, hq⟩ : ∃ q, q = 129 + 12 * i := ⟨_, rfl⟩
  rw [← hq] at y1 y2 y3
  have en : slN nx 0 = q := by unfold slN; omega
  obtain ⟨v0, r0⟩ := g4 0 (by omega) hn
  rw [en] at v0 r0
  obtain ⟨I1, x1, x2, x3, x4⟩ := sp_104 (d := d) (q0 := 91) (q1 := q) (vn := vn) (vc := vc) (vw := vw) (J := J) hS y2 y3 (by omega) (by rw [v0]; exact hz)
  have eR : ∀ a k, u2 R 91 10 (R q 10) a k = R a k := fun a k => by
    rw [r0, u2_r]
    split
    · rename_i h; rw [h.1, h.2]
    · rfl
  have eR' : u2 R 91 10 (R q 10) = R := by funext a k; exact eR a k
  rw [eR'] at x1
  have f1 : I1 127 1 = w nx := by rw [x4 _ _ (by omega)]; exact g1
  have f2 : I1 127 2 = w n := by rw [x4 _ _ (by omega)]; exact g2
  obtain ⟨I2, hI2⟩ : ∃ I2, I2 = u2 (u2 I1 127 1 (w ((nx + 11) % 12))) 127 2 (w (n - 1)) := ⟨_, rfl⟩
  have f3 : ∀ a k, a ≠ 127 → I2 a k = I1 a k := fun a k z => by rw [hI2, u2_o _ _ _ _ z, u2_o _ _ _ _ z]
  have eix : ix ((nx + 11) % 12) = i := by unfold ix; omega
  have y1' : R 128 (ix ((nx + 11) % 12)) = q := by rw [eix]; exact y1
  have y1b : R 128 (ix ((nx + 12 - 1) % 12)) = q := by rw [show nx + 12 - 1 = nx + 11 by omega]; exact y1'
  have kS : K 91 = 9 := hS.1
  have qn : q ≠ 0 := by omega
  refine ⟨I2, R, ?_, ?_, ?_, ?_, fun a k z1' z2' => ?_, fun a k => rfl⟩
  · rw [eq_65, hI2]
    simp (disch := first | assumption | omega | (simp (disch := omega) only [vM_u, vS_u]; first | assumption | omega)) only [hK, hL, hR, hI, hN, sI, hSp, hC, hW, li, lr, ↓cnd_a, ↓cnd_o, ↓cnd_n, ↓cnd_d, ↓z0, ↓z1, ↓z2, y0n, y1i, y2r, y0e, y1e, y2e, wl_0, wl_1, wl_2, wl_3, wl_4, wl_5, wl_6, wl_7, wl_8, wl_9, wl_10, wl_11, wl_12, wl_13, wl_14, wl_15, wl_16, wl_17, wl_18, wl_19, wl_20, wl_21, wl_22, wl_23, wl_24, wl_25, wl_26, wl_27, wl_28, wl_29, wl_30, wl_31, wl_32, wl_33, wl_34, wl_35, wl_36, wl_37, wl_38, wl_39, wl_40, wl_41, wl_42, wl_43, wl_44, wl_45, wl_46, wl_47, wl_48, wl_49, wl_50, wl_51, wl_52, wl_53, wl_54, wl_55, wl_56, wl_57, wl_58, wl_59, wl_60, wl_61, wl_62, wl_63, wl_64, wl_65, wl_66, wl_67, wl_68, wl_69, wl_70, wl_71, wl_72, wl_73, wl_74, wl_75, wl_76, wl_77, wl_78, wl_79, wl_80, wl_81, wl_82, wl_83, wl_84, wl_85, wl_86, wl_87, wl_88, wl_89, wl_90, wl_91, wl_92, wl_93, wl_94, wl_95, wl_96, wl_97, wl_98, wl_99, wl_100, wl_101, wl_102, wl_103, wl_104, wl_105, wl_106, wl_107, wl_108, wl_109, wl_110, wl_111, wl_112, wl_113, wl_114, wl_115, wl_116, wl_117, wl_118, wl_119, wl_120, wl_121, wl_122, wl_123, wl_124, wl_125, wl_126, wl_127, wl_128, wl_129, wl_130, wl_159, wl_160, wl_200, wl_232, wl_255, wl_256, wl_300, wl_359, wl_360, wl_400, wl_592, wl_992, wl_999, wl_1000, wl_1024, wl_3456, wl_6512, wl_7104, wl_10000, wl_11264, wl_12345, wl_32767, wl_1000000000, wl_1103515245, wl_2000000000, w_add, w_sub, w_mul, w_neg, w_lt, w_le, w_eq, w_cl, w_in, w_nat, w_max2, w_min2, w_abs2, iltT, iltF, ileT, ileF, ieqT, ieqF, bv_01, bft, bv_0, bv_1, bv_t, bv_f, cond_true, cond_false, Bool.not_true, Bool.not_false, if_true, if_false, true_or, or_true, true_and, and_true, ↓reduceIte, decide_true, decide_false, reduceCtorEq, u2_s, u2_o, u2_k, u2_u2, Bool.true_or, Bool.or_true, Bool.false_or, Bool.or_false, Bool.and_true, Bool.true_and, Bool.and_false, Bool.false_and, eq_self, not_true_eq_false, not_false_eq_true, and_self, and_true, true_and, false_and, and_false, w_dv, dvm, XSH_e hX, g1, g2, y1b, kS, x1, f1, f2]
    rw [if_neg qn, show nx + 12 - 1 = nx + 11 by omega]
  · have e1 : I2 127 1 = w ((nx + 11) % 12) := by rw [hI2, u2_k _ _ _ _ (by decide), u2_s]
    have e2 : I2 127 2 = w (n - 1) := by rw [hI2, u2_s]
    refine ⟨⟨e1, by omega, by omega⟩, ⟨e2, by omega, by omega⟩, fun j hj => ?_, fun j a b => ?_⟩
    · obtain ⟨z1', z2', z3⟩ := g3 j hj
      exact ⟨z1', z2', Wd_f' (fun a x => (f3 _ _ (by omega)).trans (x4 _ _ (by omega))) z3⟩
    · obtain ⟨u1, u2'⟩ := g4 (j + 1) (by omega) (by omega)
      have es : slN ((nx + 11) % 12) j = slN nx (j + 1) := by unfold slN; omega
      rw [es]
      refine ⟨?_, u2'⟩
      have hlo : 129 ≤ slN nx (j + 1) := by unfold slN; omega
      show vS I2 (slN nx (j + 1)) = P (j + 1)
      rw [← u1]
      exact vS_f' (fun a k v1 v2 v3 => (f3 _ _ (by omega)).trans (x4 _ _ (by omega)))
  · rw [← v0, ← x2]
    exact vS_f' (fun a k v1 v2 v3 => f3 _ _ (by omega))
  · exact Wd_f' (fun a x => f3 _ _ (by omega)) (x3 hWd)
  · rw [f3 _ _ (by omega), x4 _ _ (by omega)]
end PST
