/-! gauge: pure, and the class's counting -/
theorem tb_setB {p : Int → Bool} : ∀ (n : Nat) (k : Int) (a : Int32) (j : Nat), 0 ≤ k → k + n ≤ 10 → j < 32 → tb32 (setB p k n a) j = (tb32 a j || (decide (k ≤ (j : Int) ∧ (j : Int) < k + n) && p j))
  | 0, k, a, j, _, _, _ => by
    have e : setB p k 0 a = a := rfl
    rw [e, decide_eq_false (by omega), Bool.false_and, Bool.or_false]
  | n + 1, k, a, j, h0, h1, hj => by
    have e : setB p k (n + 1) a = setB p (k + 1) n (cond (p k) (a ||| bit k) a) := rfl
    have hb := tb_bit k.toNat (by omega) j hj
    rw [show ((k.toNat : Nat) : Int) = k by omega] at hb
    rw [e, tb_setB n (k + 1) _ j (by omega) (by omega) hj]
    by_cases c : (j : Int) = k
    · have cj : j = k.toNat := by omega
      rw [decide_eq_false (by omega), Bool.false_and, Bool.or_false, decide_eq_true (by omega), Bool.true_and, c]
      cases hp : p k with
      | false => rw [cond_false, Bool.or_false]
      | true => rw [cond_true, tb_or, hb, decide_eq_true cj]
    · have e2 : decide (k + 1 ≤ (j : Int) ∧ (j : Int) < k + 1 + n) = decide (k ≤ (j : Int) ∧ (j : Int) < k + ((n + 1 : Nat) : Int)) := by
        rw [Bool.eq_iff_iff, decide_eq_true_eq, decide_eq_true_eq]
        omega
      rw [e2]
      cases hp : p k with
      | false => rw [cond_false]
      | true => rw [cond_true, tb_or, hb, decide_eq_false (by omega), Bool.or_false]
def sO (a b : Int) : Int32 := setB (fun s => gOver a b s 0 0) 1 9 (w 0)
theorem tb_sO (a b : Int) (j : Nat) (hj : j < 32) : tb32 (sO a b) j = (decide (1 ≤ (j : Int) ∧ (j : Int) ≤ 9) && gOver a b j 0 0) := by
  unfold sO
  rw [tb_setB 9 1 _ j (by omega) (by omega) hj, tb_0, Bool.false_or]
  congr 1
  rw [Bool.eq_iff_iff, decide_eq_true_eq, decide_eq_true_eq]
  omega
def tlS (v : Int) : List (Int × Int) → Int32 → Int32
  | [], a => a
  | x :: ls, a => tlS v ls (if x.2 = v then a ||| bit x.1 else a)
def gdL (ls : List (Int × Int)) : Prop := ∀ x ∈ ls, (1 ≤ x.1 ∧ x.1 ≤ 9) ∧ (x.2 = 0 ∨ x.2 = 1)
theorem tb_tl {v : Int} : ∀ (ls : List (Int × Int)) (a : Int32) (j : Nat), gdL ls → j < 32 → (tb32 (tlS v ls a) j = true ↔ tb32 a j = true ∨ ∃ x ∈ ls, x.2 = v ∧ x.1 = j)
  | [], a, j, _, _ => by
    have e : tlS v [] a = a := rfl
    rw [e]
    exact ⟨Or.inl, fun h => h.elim id (fun ⟨x, hx, _⟩ => nomatch hx)⟩
  | x :: ls, a, j, hg, hj => by
    have e : tlS v (x :: ls) a = tlS v ls (if x.2 = v then a ||| bit x.1 else a) := rfl
    have hx := hg x List.mem_cons_self
    have ih := tb_tl (v := v) ls (if x.2 = v then a ||| bit x.1 else a) j (fun y hy => hg y (List.mem_cons_of_mem _ hy)) hj
    have hb := tb_bit x.1.toNat (by omega) j hj
    rw [show ((x.1.toNat : Nat) : Int) = x.1 by omega] at hb
    rw [e, ih]
    constructor
    · rintro (h | ⟨y, y1, y2⟩)
      · by_cases c : x.2 = v
        · rw [if_pos c, tb_or, hb, Bool.or_eq_true] at h
          rcases h with h | h
          · exact Or.inl h
          · have := of_decide_eq_true h
            exact Or.inr ⟨x, List.mem_cons_self, c, by omega⟩
        · rw [if_neg c] at h
          exact Or.inl h
      · exact Or.inr ⟨y, List.mem_cons_of_mem _ y1, y2⟩
    · rintro (h | ⟨y, y1, y2, y3⟩)
      · left
        by_cases c : x.2 = v
        · rw [if_pos c, tb_or, h]; rfl
        · rw [if_neg c]; exact h
      · rcases List.mem_cons.mp y1 with z | z
        · left
          subst z
          rw [if_pos y2, tb_or, hb, decide_eq_true (by omega), Bool.or_true]
        · exact Or.inr ⟨y, z, y2, y3⟩
def cndG (A N : Int32) (a b : Int) : Bool := decide (sO a b &&& A = A) && decide (sO a b &&& N = w 0)
def fitL (ls : List (Int × Int)) (a b : Int) : Bool := ls.all (fun x => gOver a b x.1 0 0 == decide (x.2 = 1))
theorem and_sub {x y : Int32} : x &&& y = y ↔ ∀ j, j < 32 → tb32 y j = true → tb32 x j = true := by
  constructor
  · intro h j hj hy
    have := congrArg (fun z => tb32 z j) h
    simp only [tb_and] at this
    rw [hy, Bool.and_true] at this
    exact this
  · intro h
    refine tb_ext fun j hj => ?_
    rw [tb_and]
    cases c : tb32 y j with
    | false => rw [Bool.and_false]
    | true => rw [h j hj c]; rfl
theorem and_dis {x y : Int32} : x &&& y = w 0 ↔ ∀ j, j < 32 → tb32 y j = true → tb32 x j = false := by
  constructor
  · intro h j hj hy
    have := congrArg (fun z => tb32 z j) h
    simp only [tb_and, tb_0] at this
    rw [hy, Bool.and_true] at this
    exact this
  · intro h
    refine tb_ext fun j hj => ?_
    rw [tb_and, tb_0]
    cases c : tb32 y j with
    | false => rw [Bool.and_false]
    | true => rw [h j hj c]; rfl
theorem fit_0 {ls : List (Int × Int)} (hg : gdL ls) (a b : Int) : cndG (tlS 1 ls (w 0)) (tlS 0 ls (w 0)) a b = fitL ls a b := by
  unfold cndG fitL
  rw [Bool.eq_iff_iff, Bool.and_eq_true, decide_eq_true_eq, decide_eq_true_eq, and_sub, and_dis, List.all_eq_true]
  constructor
  · rintro ⟨h1, h2⟩ x hx
    have gx := hg x hx
    have ex : ((x.1.toNat : Nat) : Int) = x.1 := by omega
    rcases gx.2 with c | c
    · have := h2 x.1.toNat (by omega) ((tb_tl ls (w 0) _ hg (by omega)).mpr (Or.inr ⟨x, hx, c, by omega⟩))
      rw [tb_sO _ _ _ (by omega), ex, decide_eq_true (by omega), Bool.true_and] at this
      rw [this, decide_eq_false (by omega)]
      rfl
    · have := h1 x.1.toNat (by omega) ((tb_tl ls (w 0) _ hg (by omega)).mpr (Or.inr ⟨x, hx, c, by omega⟩))
      rw [tb_sO _ _ _ (by omega), ex, decide_eq_true (by omega), Bool.true_and] at this
      rw [this, decide_eq_true c]
      rfl
  · intro h
    constructor
    · intro j hj hy
      rcases (tb_tl ls (w 0) j hg hj).mp hy with z | ⟨x, hx, c1, c2⟩
      · rw [tb_0] at z; exact nomatch z
      · have gx := hg x hx
        have := h x hx
        rw [decide_eq_true c1] at this
        rw [tb_sO _ _ _ hj, ← c2, decide_eq_true (by omega), Bool.true_and]
        simpa using this
    · intro j hj hy
      rcases (tb_tl ls (w 0) j hg hj).mp hy with z | ⟨x, hx, c1, c2⟩
      · rw [tb_0] at z; exact nomatch z
      · have gx := hg x hx
        have := h x hx
        rw [decide_eq_false (by omega)] at this
        rw [tb_sO _ _ _ hj, ← c2, decide_eq_true (by omega), Bool.true_and]
        simpa using this
theorem fit_s {A N : Int32} {s : Int} (hs : 1 ≤ s ∧ s ≤ 9) (a b : Int) : cndG (A ||| bit s) N a b = (cndG A N a b && gOver a b s 0 0) := by
  have hb : ∀ j, j < 32 → tb32 (bit s) j = decide (j = s.toNat) := fun j hj => by
    have := tb_bit s.toNat (by omega) j hj
    rw [show ((s.toNat : Nat) : Int) = s by omega] at this
    exact this
  unfold cndG
  have e : decide (sO a b &&& (A ||| bit s) = A ||| bit s) = (decide (sO a b &&& A = A) && gOver a b s 0 0) := by
    rw [Bool.eq_iff_iff, Bool.and_eq_true, decide_eq_true_eq, decide_eq_true_eq, and_sub, and_sub]
    constructor
    · intro h
      refine ⟨fun j hj hy => h j hj (by rw [tb_or, hy]; rfl), ?_⟩
      have := h s.toNat (by omega) (by rw [tb_or, hb _ (by omega), decide_eq_true rfl, Bool.or_true])
      rw [tb_sO _ _ _ (by omega), show ((s.toNat : Nat) : Int) = s by omega, decide_eq_true (by omega), Bool.true_and] at this
      exact this
    · rintro ⟨h1, h2⟩ j hj hy
      rw [tb_or, Bool.or_eq_true] at hy
      rcases hy with hy | hy
      · exact h1 j hj hy
      · rw [hb j hj] at hy
        have := of_decide_eq_true hy
        have ej : (j : Int) = s := by omega
        rw [tb_sO _ _ _ hj, ej, decide_eq_true (by omega), Bool.true_and]
        exact h2
  rw [e]
  cases decide (sO a b &&& A = A) <;> cases decide (sO a b &&& N = w 0) <;> cases gOver a b s 0 0 <;> rfl
def kC (q : Int → Int → Bool) : Int := sm (fun b => cnt (fun o => q (b - o) b) 0 (min 10 b).toNat) 2 14
theorem kC_r (q : Int → Int → Bool) : 0 ≤ kC q ∧ kC q ≤ 140 := by
  have := sm_b (f := fun b => cnt (fun o => q (b - o) b) 0 (min 10 b).toNat) (M := 10) 14 2 (fun b _ _ => by have := cnt_b (fun o => q (b - o) b) (min 10 b).toNat 0; omega)
  unfold kC
  omega
section GAU
variable {vn vc vw : Nat} {K L : Nat → Nat} {R : Nat → Nat → Nat} {I : Nat → Nat → Int32} {J : Nat → Nat → Int64}
theorem sp_30 {d : Nat} {b o : Int} {σ : HS} (hb : (2 ≤ b ∧ b ≤ 15) ∧ 0 ≤ o ∧ o < b) : ev PR (d + 2) 30 [.int (w b), .int (w o)] σ = some (.inl (some (.int (sO (b - o) b))), σ) := by
  have lp : ∀ (n : Nat) (s : Int) (a : Int32), 1 ≤ s → s + n = 10 → atv PR (d + 1) cd_30 4 [.int (w b), .int (w o), .int a, .int (w s)] [] σ = some (.inl (some (.int (setB (fun s => gOver (b - o) b s 0 0) s n a))), σ) := by
    intro n
    induction n with
    | zero =>
      intro s a h1 hn
      have es : s = 10 := by omega
      subst es
      rw [eq_30_4]
      simp (disch := first | assumption | omega | (simp (disch := omega) only [vM_u, vS_u]; first | assumption | omega)) only [hK, hL, hR, hI, hN, sI, hSp, hC, hW, li, lr, ↓cnd_a, ↓cnd_o, ↓cnd_n, ↓cnd_d, ↓z0, ↓z1, ↓z2, y0n, y1i, y2r, y0e, y1e, y2e, wl_0, wl_1, wl_2, wl_3, wl_4, wl_5, wl_6, wl_7, wl_8, wl_9, wl_10, wl_11, wl_12, wl_13, wl_14, wl_15, wl_16, wl_17, wl_18, wl_19, wl_20, wl_21, wl_22, wl_23, wl_24, wl_25, wl_26, wl_27, wl_28, wl_29, wl_30, wl_31, wl_32, wl_33, wl_34, wl_35, wl_36, wl_37, wl_38, wl_39, wl_40, wl_41, wl_42, wl_43, wl_44, wl_45, wl_46, wl_47, wl_48, wl_49, wl_50, wl_51, wl_52, wl_53, wl_54, wl_55, wl_56, wl_57, wl_58, wl_59, wl_60, wl_61, wl_62, wl_63, wl_64, wl_65, wl_66, wl_67, wl_68, wl_69, wl_70, wl_71, wl_72, wl_73, wl_74, wl_75, wl_76, wl_77, wl_78, wl_79, wl_80, wl_81, wl_82, wl_83, wl_84, wl_85, wl_86, wl_87, wl_88, wl_89, wl_90, wl_91, wl_92, wl_93, wl_94, wl_95, wl_96, wl_97, wl_98, wl_99, wl_100, wl_101, wl_102, wl_103, wl_104, wl_105, wl_106, wl_107, wl_108, wl_109, wl_110, wl_111, wl_112, wl_113, wl_114, wl_115, wl_116, wl_117, wl_118, wl_119, wl_120, wl_121, wl_122, wl_123, wl_124, wl_125, wl_126, wl_127, wl_128, wl_129, wl_130, wl_159, wl_160, wl_200, wl_232, wl_255, wl_256, wl_300, wl_359, wl_360, wl_400, wl_592, wl_992, wl_999, wl_1000, wl_1024, wl_3456, wl_6512, wl_7104, wl_10000, wl_11264, wl_12345, wl_32767, wl_1000000000, wl_1103515245, wl_2000000000, w_add, w_sub, w_mul, w_neg, w_lt, w_le, w_eq, w_cl, w_in, w_nat, w_max2, w_min2, w_abs2, iltT, iltF, ileT, ileF, ieqT, ieqF, bv_01, bft, bv_0, bv_1, bv_t, bv_f, cond_true, cond_false, Bool.not_true, Bool.not_false, if_true, if_false, true_or, or_true, true_and, and_true, ↓reduceIte, decide_true, decide_false, reduceCtorEq, u2_s, u2_o, u2_k, u2_u2, Bool.true_or, Bool.or_true, Bool.false_or, Bool.or_false, Bool.and_true, Bool.true_and, Bool.and_false, Bool.false_and, eq_self, not_true_eq_false, not_false_eq_true, and_self, and_true, true_and, false_and, and_false, w_dv, dvm]
      all_goals rfl
    | succ n ih =>
      intro s a h1 hn
      have s108 := sp_108 (d := d) (σ := σ) (a := b - o) (b := b) (s := s) (x := 0) (y := 0) (by omega)
      have e : setB (fun s => gOver (b - o) b s 0 0) s (n + 1) a = setB (fun s => gOver (b - o) b s 0 0) (s + 1) n (cond (gOver (b - o) b s 0 0) (a ||| bit s) a) := rfl
      rw [e, eq_30_4]
      cases c : gOver (b - o) b s 0 0 with
      | false =>
        rw [c] at s108
        rw [cond_false, ← ih (s + 1) a (by omega) (by omega)]
        simp (disch := first | assumption | omega | (simp (disch := omega) only [vM_u, vS_u]; first | assumption | omega)) only [hK, hL, hR, hI, hN, sI, hSp, hC, hW, li, lr, ↓cnd_a, ↓cnd_o, ↓cnd_n, ↓cnd_d, ↓z0, ↓z1, ↓z2, y0n, y1i, y2r, y0e, y1e, y2e, wl_0, wl_1, wl_2, wl_3, wl_4, wl_5, wl_6, wl_7, wl_8, wl_9, wl_10, wl_11, wl_12, wl_13, wl_14, wl_15, wl_16, wl_17, wl_18, wl_19, wl_20, wl_21, wl_22, wl_23, wl_24, wl_25, wl_26, wl_27, wl_28, wl_29, wl_30, wl_31, wl_32, wl_33, wl_34, wl_35, wl_36, wl_37, wl_38, wl_39, wl_40, wl_41, wl_42, wl_43, wl_44, wl_45, wl_46, wl_47, wl_48, wl_49, wl_50, wl_51, wl_52, wl_53, wl_54, wl_55, wl_56, wl_57, wl_58, wl_59, wl_60, wl_61, wl_62, wl_63, wl_64, wl_65, wl_66, wl_67, wl_68, wl_69, wl_70, wl_71, wl_72, wl_73, wl_74, wl_75, wl_76, wl_77, wl_78, wl_79, wl_80, wl_81, wl_82, wl_83, wl_84, wl_85, wl_86, wl_87, wl_88, wl_89, wl_90, wl_91, wl_92, wl_93, wl_94, wl_95, wl_96, wl_97, wl_98, wl_99, wl_100, wl_101, wl_102, wl_103, wl_104, wl_105, wl_106, wl_107, wl_108, wl_109, wl_110, wl_111, wl_112, wl_113, wl_114, wl_115, wl_116, wl_117, wl_118, wl_119, wl_120, wl_121, wl_122, wl_123, wl_124, wl_125, wl_126, wl_127, wl_128, wl_129, wl_130, wl_159, wl_160, wl_200, wl_232, wl_255, wl_256, wl_300, wl_359, wl_360, wl_400, wl_592, wl_992, wl_999, wl_1000, wl_1024, wl_3456, wl_6512, wl_7104, wl_10000, wl_11264, wl_12345, wl_32767, wl_1000000000, wl_1103515245, wl_2000000000, w_add, w_sub, w_mul, w_neg, w_lt, w_le, w_eq, w_cl, w_in, w_nat, w_max2, w_min2, w_abs2, iltT, iltF, ileT, ileF, ieqT, ieqF, bv_01, bft, bv_0, bv_1, bv_t, bv_f, cond_true, cond_false, Bool.not_true, Bool.not_false, if_true, if_false, true_or, or_true, true_and, and_true, ↓reduceIte, decide_true, decide_false, reduceCtorEq, u2_s, u2_o, u2_k, u2_u2, Bool.true_or, Bool.or_true, Bool.false_or, Bool.or_false, Bool.and_true, Bool.true_and, Bool.and_false, Bool.false_and, eq_self, not_true_eq_false, not_false_eq_true, and_self, and_true, true_and, false_and, and_false, w_dv, dvm, s108]
      | true =>
        rw [c] at s108
        rw [cond_true, ← ih (s + 1) (a ||| bit s) (by omega) (by omega)]
        simp (disch := first | assumption | omega | (simp (disch := omega) only [vM_u, vS_u]; first | assumption | omega)) only [hK, hL, hR, hI, hN, sI, hSp, hC, hW, li, lr, ↓cnd_a, ↓cnd_o, ↓cnd_n, ↓cnd_d, ↓z0, ↓z1, ↓z2, y0n, y1i, y2r, y0e, y1e, y2e, wl_0, wl_1, wl_2, wl_3, wl_4, wl_5, wl_6, wl_7, wl_8, wl_9, wl_10, wl_11, wl_12, wl_13, wl_14, wl_15, wl_16, wl_17, wl_18, wl_19, wl_20, wl_21, wl_22, wl_23, wl_24, wl_25, wl_26, wl_27, wl_28, wl_29, wl_30, wl_31, wl_32, wl_33, wl_34, wl_35, wl_36, wl_37, wl_38, wl_39, wl_40, wl_41, wl_42, wl_43, wl_44, wl_45, wl_46, wl_47, wl_48, wl_49, wl_50, wl_51, wl_52, wl_53, wl_54, wl_55, wl_56, wl_57, wl_58, wl_59, wl_60, wl_61, wl_62, wl_63, wl_64, wl_65, wl_66, wl_67, wl_68, wl_69, wl_70, wl_71, wl_72, wl_73, wl_74, wl_75, wl_76, wl_77, wl_78, wl_79, wl_80, wl_81, wl_82, wl_83, wl_84, wl_85, wl_86, wl_87, wl_88, wl_89, wl_90, wl_91, wl_92, wl_93, wl_94, wl_95, wl_96, wl_97, wl_98, wl_99, wl_100, wl_101, wl_102, wl_103, wl_104, wl_105, wl_106, wl_107, wl_108, wl_109, wl_110, wl_111, wl_112, wl_113, wl_114, wl_115, wl_116, wl_117, wl_118, wl_119, wl_120, wl_121, wl_122, wl_123, wl_124, wl_125, wl_126, wl_127, wl_128, wl_129, wl_130, wl_159, wl_160, wl_200, wl_232, wl_255, wl_256, wl_300, wl_359, wl_360, wl_400, wl_592, wl_992, wl_999, wl_1000, wl_1024, wl_3456, wl_6512, wl_7104, wl_10000, wl_11264, wl_12345, wl_32767, wl_1000000000, wl_1103515245, wl_2000000000, w_add, w_sub, w_mul, w_neg, w_lt, w_le, w_eq, w_cl, w_in, w_nat, w_max2, w_min2, w_abs2, iltT, iltF, ileT, ileF, ieqT, ieqF, bv_01, bft, bv_0, bv_1, bv_t, bv_f, cond_true, cond_false, Bool.not_true, Bool.not_false, if_true, if_false, true_or, or_true, true_and, and_true, ↓reduceIte, decide_true, decide_false, reduceCtorEq, u2_s, u2_o, u2_k, u2_u2, Bool.true_or, Bool.or_true, Bool.false_or, Bool.or_false, Bool.and_true, Bool.true_and, Bool.and_false, Bool.false_and, eq_self, not_true_eq_false, not_false_eq_true, and_self, and_true, true_and, false_and, and_false, w_dv, dvm, s108]
        all_goals rfl
  rw [eq_30]
  exact lp 9 1 (w 0) (by omega) (by omega)
theorem sp_29 {d : Nat} {A N : Int32} {σ : HS} : ev PR (d + 3) 29 [.int A, .int N] σ = some (.inl (some (.int (w (kC (cndG A N))))), σ) := by
  have lpi : ∀ (b : Int), 2 ≤ b ∧ b ≤ 15 → ∀ (n : Nat) (o c : Int) (w5 : Value), 0 ≤ o → o + n = min 10 b → ∃ v4 v5, atv PR (d + 2) cd_29 9 [.int A, .int N, .int (w c), .int (w b), .int (w o), w5] [] σ = atv PR (d + 2) cd_29 4 [.int A, .int N, .int (w (c + cnt (fun o => cndG A N (b - o) b) o n)), .int (w (b + 1)), v4, v5] [] σ := by
    intro b hb n
    induction n with
    | zero =>
      intro o c w5 h0 hn
      refine ⟨.int (w o), w5, ?_⟩
      unfold cnt
      rw [Int.add_zero, eq_29_9]
      by_cases c1 : 9 < o
      · simp (disch := first | assumption | omega | (simp (disch := omega) only [vM_u, vS_u]; first | assumption | omega)) only [hK, hL, hR, hI, hN, sI, hSp, hC, hW, li, lr, ↓cnd_a, ↓cnd_o, ↓cnd_n, ↓cnd_d, ↓z0, ↓z1, ↓z2, y0n, y1i, y2r, y0e, y1e, y2e, wl_0, wl_1, wl_2, wl_3, wl_4, wl_5, wl_6, wl_7, wl_8, wl_9, wl_10, wl_11, wl_12, wl_13, wl_14, wl_15, wl_16, wl_17, wl_18, wl_19, wl_20, wl_21, wl_22, wl_23, wl_24, wl_25, wl_26, wl_27, wl_28, wl_29, wl_30, wl_31, wl_32, wl_33, wl_34, wl_35, wl_36, wl_37, wl_38, wl_39, wl_40, wl_41, wl_42, wl_43, wl_44, wl_45, wl_46, wl_47, wl_48, wl_49, wl_50, wl_51, wl_52, wl_53, wl_54, wl_55, wl_56, wl_57, wl_58, wl_59, wl_60, wl_61, wl_62, wl_63, wl_64, wl_65, wl_66, wl_67, wl_68, wl_69, wl_70, wl_71, wl_72, wl_73, wl_74, wl_75, wl_76, wl_77, wl_78, wl_79, wl_80, wl_81, wl_82, wl_83, wl_84, wl_85, wl_86, wl_87, wl_88, wl_89, wl_90, wl_91, wl_92, wl_93, wl_94, wl_95, wl_96, wl_97, wl_98, wl_99, wl_100, wl_101, wl_102, wl_103, wl_104, wl_105, wl_106, wl_107, wl_108, wl_109, wl_110, wl_111, wl_112, wl_113, wl_114, wl_115, wl_116, wl_117, wl_118, wl_119, wl_120, wl_121, wl_122, wl_123, wl_124, wl_125, wl_126, wl_127, wl_128, wl_129, wl_130, wl_159, wl_160, wl_200, wl_232, wl_255, wl_256, wl_300, wl_359, wl_360, wl_400, wl_592, wl_992, wl_999, wl_1000, wl_1024, wl_3456, wl_6512, wl_7104, wl_10000, wl_11264, wl_12345, wl_32767, wl_1000000000, wl_1103515245, wl_2000000000, w_add, w_sub, w_mul, w_neg, w_lt, w_le, w_eq, w_cl, w_in, w_nat, w_max2, w_min2, w_abs2, iltT, iltF, ileT, ileF, ieqT, ieqF, bv_01, bft, bv_0, bv_1, bv_t, bv_f, cond_true, cond_false, Bool.not_true, Bool.not_false, if_true, if_false, true_or, or_true, true_and, and_true, ↓reduceIte, decide_true, decide_false, reduceCtorEq, u2_s, u2_o, u2_k, u2_u2, Bool.true_or, Bool.or_true, Bool.false_or, Bool.or_false, Bool.and_true, Bool.true_and, Bool.and_false, Bool.false_and, eq_self, not_true_eq_false, not_false_eq_true, and_self, and_true, true_and, false_and, and_false, w_dv, dvm]
      · simp (disch := first | assumption | omega | (simp (disch := omega) only [vM_u, vS_u]; first | assumption | omega)) only [hK, hL, hR, hI, hN, sI, hSp, hC, hW, li, lr, ↓cnd_a, ↓cnd_o, ↓cnd_n, ↓cnd_d, ↓z0, ↓z1, ↓z2, y0n, y1i, y2r, y0e, y1e, y2e, wl_0, wl_1, wl_2, wl_3, wl_4, wl_5, wl_6, wl_7, wl_8, wl_9, wl_10, wl_11, wl_12, wl_13, wl_14, wl_15, wl_16, wl_17, wl_18, wl_19, wl_20, wl_21, wl_22, wl_23, wl_24, wl_25, wl_26, wl_27, wl_28, wl_29, wl_30, wl_31, wl_32, wl_33, wl_34, wl_35, wl_36, wl_37, wl_38, wl_39, wl_40, wl_41, wl_42, wl_43, wl_44, wl_45, wl_46, wl_47, wl_48, wl_49, wl_50, wl_51, wl_52, wl_53, wl_54, wl_55, wl_56, wl_57, wl_58, wl_59, wl_60, wl_61, wl_62, wl_63, wl_64, wl_65, wl_66, wl_67, wl_68, wl_69, wl_70, wl_71, wl_72, wl_73, wl_74, wl_75, wl_76, wl_77, wl_78, wl_79, wl_80, wl_81, wl_82, wl_83, wl_84, wl_85, wl_86, wl_87, wl_88, wl_89, wl_90, wl_91, wl_92, wl_93, wl_94, wl_95, wl_96, wl_97, wl_98, wl_99, wl_100, wl_101, wl_102, wl_103, wl_104, wl_105, wl_106, wl_107, wl_108, wl_109, wl_110, wl_111, wl_112, wl_113, wl_114, wl_115, wl_116, wl_117, wl_118, wl_119, wl_120, wl_121, wl_122, wl_123, wl_124, wl_125, wl_126, wl_127, wl_128, wl_129, wl_130, wl_159, wl_160, wl_200, wl_232, wl_255, wl_256, wl_300, wl_359, wl_360, wl_400, wl_592, wl_992, wl_999, wl_1000, wl_1024, wl_3456, wl_6512, wl_7104, wl_10000, wl_11264, wl_12345, wl_32767, wl_1000000000, wl_1103515245, wl_2000000000, w_add, w_sub, w_mul, w_neg, w_lt, w_le, w_eq, w_cl, w_in, w_nat, w_max2, w_min2, w_abs2, iltT, iltF, ileT, ileF, ieqT, ieqF, bv_01, bft, bv_0, bv_1, bv_t, bv_f, cond_true, cond_false, Bool.not_true, Bool.not_false, if_true, if_false, true_or, or_true, true_and, and_true, ↓reduceIte, decide_true, decide_false, reduceCtorEq, u2_s, u2_o, u2_k, u2_u2, Bool.true_or, Bool.or_true, Bool.false_or, Bool.or_false, Bool.and_true, Bool.true_and, Bool.and_false, Bool.false_and, eq_self, not_true_eq_false, not_false_eq_true, and_self, and_true, true_and, false_and, and_false, w_dv, dvm]
    | succ n ih =>
      intro o c w5 h0 hn
      have s30 := sp_30 (d := d) (b := b) (o := o) (σ := σ) (by omega)
      have ec : cnt (fun o => cndG A N (b - o) b) o (n + 1) = cond (cndG A N (b - o) b) 1 0 + cnt (fun o => cndG A N (b - o) b) (o + 1) n := rfl
      rw [ec, ← Int.add_assoc]
      by_cases c1 : sO (b - o) b &&& A = A
      · by_cases c2 : sO (b - o) b &&& N = w 0
        · have eq : cndG A N (b - o) b = true := by unfold cndG; rw [decide_eq_true c1, decide_eq_true c2]; rfl
          obtain ⟨v4, v5, g⟩ := ih (o + 1) (c + 1) (.int (sO (b - o) b)) (by omega) (by omega)
          refine ⟨v4, v5, ?_⟩
          rw [eq, cond_true, ← g, eq_29_9]
          simp (disch := first | assumption | omega | (simp (disch := omega) only [vM_u, vS_u]; first | assumption | omega)) only [hK, hL, hR, hI, hN, sI, hSp, hC, hW, li, lr, ↓cnd_a, ↓cnd_o, ↓cnd_n, ↓cnd_d, ↓z0, ↓z1, ↓z2, y0n, y1i, y2r, y0e, y1e, y2e, wl_0, wl_1, wl_2, wl_3, wl_4, wl_5, wl_6, wl_7, wl_8, wl_9, wl_10, wl_11, wl_12, wl_13, wl_14, wl_15, wl_16, wl_17, wl_18, wl_19, wl_20, wl_21, wl_22, wl_23, wl_24, wl_25, wl_26, wl_27, wl_28, wl_29, wl_30, wl_31, wl_32, wl_33, wl_34, wl_35, wl_36, wl_37, wl_38, wl_39, wl_40, wl_41, wl_42, wl_43, wl_44, wl_45, wl_46, wl_47, wl_48, wl_49, wl_50, wl_51, wl_52, wl_53, wl_54, wl_55, wl_56, wl_57, wl_58, wl_59, wl_60, wl_61, wl_62, wl_63, wl_64, wl_65, wl_66, wl_67, wl_68, wl_69, wl_70, wl_71, wl_72, wl_73, wl_74, wl_75, wl_76, wl_77, wl_78, wl_79, wl_80, wl_81, wl_82, wl_83, wl_84, wl_85, wl_86, wl_87, wl_88, wl_89, wl_90, wl_91, wl_92, wl_93, wl_94, wl_95, wl_96, wl_97, wl_98, wl_99, wl_100, wl_101, wl_102, wl_103, wl_104, wl_105, wl_106, wl_107, wl_108, wl_109, wl_110, wl_111, wl_112, wl_113, wl_114, wl_115, wl_116, wl_117, wl_118, wl_119, wl_120, wl_121, wl_122, wl_123, wl_124, wl_125, wl_126, wl_127, wl_128, wl_129, wl_130, wl_159, wl_160, wl_200, wl_232, wl_255, wl_256, wl_300, wl_359, wl_360, wl_400, wl_592, wl_992, wl_999, wl_1000, wl_1024, wl_3456, wl_6512, wl_7104, wl_10000, wl_11264, wl_12345, wl_32767, wl_1000000000, wl_1103515245, wl_2000000000, w_add, w_sub, w_mul, w_neg, w_lt, w_le, w_eq, w_cl, w_in, w_nat, w_max2, w_min2, w_abs2, iltT, iltF, ileT, ileF, ieqT, ieqF, bv_01, bft, bv_0, bv_1, bv_t, bv_f, cond_true, cond_false, Bool.not_true, Bool.not_false, if_true, if_false, true_or, or_true, true_and, and_true, ↓reduceIte, decide_true, decide_false, reduceCtorEq, u2_s, u2_o, u2_k, u2_u2, Bool.true_or, Bool.or_true, Bool.false_or, Bool.or_false, Bool.and_true, Bool.true_and, Bool.and_false, Bool.false_and, eq_self, not_true_eq_false, not_false_eq_true, and_self, and_true, true_and, false_and, and_false, w_dv, dvm, s30, c1, c2]
        · have eq : cndG A N (b - o) b = false := by unfold cndG; rw [decide_eq_false c2, Bool.and_false]
          obtain ⟨v4, v5, g⟩ := ih (o + 1) c (.int (sO (b - o) b)) (by omega) (by omega)
          refine ⟨v4, v5, ?_⟩
          rw [eq, cond_false, Int.add_zero, ← g, eq_29_9]
          simp (disch := first | assumption | omega | (simp (disch := omega) only [vM_u, vS_u]; first | assumption | omega)) only [hK, hL, hR, hI, hN, sI, hSp, hC, hW, li, lr, ↓cnd_a, ↓cnd_o, ↓cnd_n, ↓cnd_d, ↓z0, ↓z1, ↓z2, y0n, y1i, y2r, y0e, y1e, y2e, wl_0, wl_1, wl_2, wl_3, wl_4, wl_5, wl_6, wl_7, wl_8, wl_9, wl_10, wl_11, wl_12, wl_13, wl_14, wl_15, wl_16, wl_17, wl_18, wl_19, wl_20, wl_21, wl_22, wl_23, wl_24, wl_25, wl_26, wl_27, wl_28, wl_29, wl_30, wl_31, wl_32, wl_33, wl_34, wl_35, wl_36, wl_37, wl_38, wl_39, wl_40, wl_41, wl_42, wl_43, wl_44, wl_45, wl_46, wl_47, wl_48, wl_49, wl_50, wl_51, wl_52, wl_53, wl_54, wl_55, wl_56, wl_57, wl_58, wl_59, wl_60, wl_61, wl_62, wl_63, wl_64, wl_65, wl_66, wl_67, wl_68, wl_69, wl_70, wl_71, wl_72, wl_73, wl_74, wl_75, wl_76, wl_77, wl_78, wl_79, wl_80, wl_81, wl_82, wl_83, wl_84, wl_85, wl_86, wl_87, wl_88, wl_89, wl_90, wl_91, wl_92, wl_93, wl_94, wl_95, wl_96, wl_97, wl_98, wl_99, wl_100, wl_101, wl_102, wl_103, wl_104, wl_105, wl_106, wl_107, wl_108, wl_109, wl_110, wl_111, wl_112, wl_113, wl_114, wl_115, wl_116, wl_117, wl_118, wl_119, wl_120, wl_121, wl_122, wl_123, wl_124, wl_125, wl_126, wl_127, wl_128, wl_129, wl_130, wl_159, wl_160, wl_200, wl_232, wl_255, wl_256, wl_300, wl_359, wl_360, wl_400, wl_592, wl_992, wl_999, wl_1000, wl_1024, wl_3456, wl_6512, wl_7104, wl_10000, wl_11264, wl_12345, wl_32767, wl_1000000000, wl_1103515245, wl_2000000000, w_add, w_sub, w_mul, w_neg, w_lt, w_le, w_eq, w_cl, w_in, w_nat, w_max2, w_min2, w_abs2, iltT, iltF, ileT, ileF, ieqT, ieqF, bv_01, bft, bv_0, bv_1, bv_t, bv_f, cond_true, cond_false, Bool.not_true, Bool.not_false, if_true, if_false, true_or, or_true, true_and, and_true, ↓reduceIte, decide_true, decide_false, reduceCtorEq, u2_s, u2_o, u2_k, u2_u2, Bool.true_or, Bool.or_true, Bool.false_or, Bool.or_false, Bool.and_true, Bool.true_and, Bool.and_false, Bool.false_and, eq_self, not_true_eq_false, not_false_eq_true, and_self, and_true, true_and, false_and, and_false, w_dv, dvm, s30, c1, c2]
      · have eq : cndG A N (b - o) b = false := by unfold cndG; rw [decide_eq_false c1, Bool.false_and]
        obtain ⟨v4, v5, g⟩ := ih (o + 1) c (.int (sO (b - o) b)) (by omega) (by omega)
        refine ⟨v4, v5, ?_⟩
        rw [eq, cond_false, Int.add_zero, ← g, eq_29_9]
        simp (disch := first | assumption | omega | (simp (disch := omega) only [vM_u, vS_u]; first | assumption | omega)) only [hK, hL, hR, hI, hN, sI, hSp, hC, hW, li, lr, ↓cnd_a, ↓cnd_o, ↓cnd_n, ↓cnd_d, ↓z0, ↓z1, ↓z2, y0n, y1i, y2r, y0e, y1e, y2e, wl_0, wl_1, wl_2, wl_3, wl_4, wl_5, wl_6, wl_7, wl_8, wl_9, wl_10, wl_11, wl_12, wl_13, wl_14, wl_15, wl_16, wl_17, wl_18, wl_19, wl_20, wl_21, wl_22, wl_23, wl_24, wl_25, wl_26, wl_27, wl_28, wl_29, wl_30, wl_31, wl_32, wl_33, wl_34, wl_35, wl_36, wl_37, wl_38, wl_39, wl_40, wl_41, wl_42, wl_43, wl_44, wl_45, wl_46, wl_47, wl_48, wl_49, wl_50, wl_51, wl_52, wl_53, wl_54, wl_55, wl_56, wl_57, wl_58, wl_59, wl_60, wl_61, wl_62, wl_63, wl_64, wl_65, wl_66, wl_67, wl_68, wl_69, wl_70, wl_71, wl_72, wl_73, wl_74, wl_75, wl_76, wl_77, wl_78, wl_79, wl_80, wl_81, wl_82, wl_83, wl_84, wl_85, wl_86, wl_87, wl_88, wl_89, wl_90, wl_91, wl_92, wl_93, wl_94, wl_95, wl_96, wl_97, wl_98, wl_99, wl_100, wl_101, wl_102, wl_103, wl_104, wl_105, wl_106, wl_107, wl_108, wl_109, wl_110, wl_111, wl_112, wl_113, wl_114, wl_115, wl_116, wl_117, wl_118, wl_119, wl_120, wl_121, wl_122, wl_123, wl_124, wl_125, wl_126, wl_127, wl_128, wl_129, wl_130, wl_159, wl_160, wl_200, wl_232, wl_255, wl_256, wl_300, wl_359, wl_360, wl_400, wl_592, wl_992, wl_999, wl_1000, wl_1024, wl_3456, wl_6512, wl_7104, wl_10000, wl_11264, wl_12345, wl_32767, wl_1000000000, wl_1103515245, wl_2000000000, w_add, w_sub, w_mul, w_neg, w_lt, w_le, w_eq, w_cl, w_in, w_nat, w_max2, w_min2, w_abs2, iltT, iltF, ileT, ileF, ieqT, ieqF, bv_01, bft, bv_0, bv_1, bv_t, bv_f, cond_true, cond_false, Bool.not_true, Bool.not_false, if_true, if_false, true_or, or_true, true_and, and_true, ↓reduceIte, decide_true, decide_false, reduceCtorEq, u2_s, u2_o, u2_k, u2_u2, Bool.true_or, Bool.or_true, Bool.false_or, Bool.or_false, Bool.and_true, Bool.true_and, Bool.and_false, Bool.false_and, eq_self, not_true_eq_false, not_false_eq_true, and_self, and_true, true_and, false_and, and_false, w_dv, dvm, s30, c1]
  have lp : ∀ (n : Nat) (b c : Int) (w4 w5 : Value), 2 ≤ b → b + n = 16 → atv PR (d + 2) cd_29 4 [.int A, .int N, .int (w c), .int (w b), w4, w5] [] σ = some (.inl (some (.int (w (c + sm (fun b => cnt (fun o => cndG A N (b - o) b) 0 (min 10 b).toNat) b n)))), σ) := by
    intro n
    induction n with
    | zero =>
      intro b c w4 w5 h0 hn
      have eb : b = 16 := by omega
      subst eb
      unfold sm
      rw [Int.add_zero, eq_29_4]
      simp (disch := first | assumption | omega | (simp (disch := omega) only [vM_u, vS_u]; first | assumption | omega)) only [hK, hL, hR, hI, hN, sI, hSp, hC, hW, li, lr, ↓cnd_a, ↓cnd_o, ↓cnd_n, ↓cnd_d, ↓z0, ↓z1, ↓z2, y0n, y1i, y2r, y0e, y1e, y2e, wl_0, wl_1, wl_2, wl_3, wl_4, wl_5, wl_6, wl_7, wl_8, wl_9, wl_10, wl_11, wl_12, wl_13, wl_14, wl_15, wl_16, wl_17, wl_18, wl_19, wl_20, wl_21, wl_22, wl_23, wl_24, wl_25, wl_26, wl_27, wl_28, wl_29, wl_30, wl_31, wl_32, wl_33, wl_34, wl_35, wl_36, wl_37, wl_38, wl_39, wl_40, wl_41, wl_42, wl_43, wl_44, wl_45, wl_46, wl_47, wl_48, wl_49, wl_50, wl_51, wl_52, wl_53, wl_54, wl_55, wl_56, wl_57, wl_58, wl_59, wl_60, wl_61, wl_62, wl_63, wl_64, wl_65, wl_66, wl_67, wl_68, wl_69, wl_70, wl_71, wl_72, wl_73, wl_74, wl_75, wl_76, wl_77, wl_78, wl_79, wl_80, wl_81, wl_82, wl_83, wl_84, wl_85, wl_86, wl_87, wl_88, wl_89, wl_90, wl_91, wl_92, wl_93, wl_94, wl_95, wl_96, wl_97, wl_98, wl_99, wl_100, wl_101, wl_102, wl_103, wl_104, wl_105, wl_106, wl_107, wl_108, wl_109, wl_110, wl_111, wl_112, wl_113, wl_114, wl_115, wl_116, wl_117, wl_118, wl_119, wl_120, wl_121, wl_122, wl_123, wl_124, wl_125, wl_126, wl_127, wl_128, wl_129, wl_130, wl_159, wl_160, wl_200, wl_232, wl_255, wl_256, wl_300, wl_359, wl_360, wl_400, wl_592, wl_992, wl_999, wl_1000, wl_1024, wl_3456, wl_6512, wl_7104, wl_10000, wl_11264, wl_12345, wl_32767, wl_1000000000, wl_1103515245, wl_2000000000, w_add, w_sub, w_mul, w_neg, w_lt, w_le, w_eq, w_cl, w_in, w_nat, w_max2, w_min2, w_abs2, iltT, iltF, ileT, ileF, ieqT, ieqF, bv_01, bft, bv_0, bv_1, bv_t, bv_f, cond_true, cond_false, Bool.not_true, Bool.not_false, if_true, if_false, true_or, or_true, true_and, and_true, ↓reduceIte, decide_true, decide_false, reduceCtorEq, u2_s, u2_o, u2_k, u2_u2, Bool.true_or, Bool.or_true, Bool.false_or, Bool.or_false, Bool.and_true, Bool.true_and, Bool.and_false, Bool.false_and, eq_self, not_true_eq_false, not_false_eq_true, and_self, and_true, true_and, false_and, and_false, w_dv, dvm]
    | succ n ih =>
      intro b c w4 w5 h0 hn
      obtain ⟨v4, v5, g⟩ := lpi b (by omega) (min 10 b).toNat 0 c w5 (by omega) (by omega)
      have es : sm (fun b => cnt (fun o => cndG A N (b - o) b) 0 (min 10 b).toNat) b (n + 1) = cnt (fun o => cndG A N (b - o) b) 0 (min 10 b).toNat + sm (fun b => cnt (fun o => cndG A N (b - o) b) 0 (min 10 b).toNat) (b + 1) n := rfl
      rw [es, ← Int.add_assoc, ← ih (b + 1) _ v4 v5 (by omega) (by omega), ← g, eq_29_4]
      simp (disch := first | assumption | omega | (simp (disch := omega) only [vM_u, vS_u]; first | assumption | omega)) only [hK, hL, hR, hI, hN, sI, hSp, hC, hW, li, lr, ↓cnd_a, ↓cnd_o, ↓cnd_n, ↓cnd_d, ↓z0, ↓z1, ↓z2, y0n, y1i, y2r, y0e, y1e, y2e, wl_0, wl_1, wl_2, wl_3, wl_4, wl_5, wl_6, wl_7, wl_8, wl_9, wl_10, wl_11, wl_12, wl_13, wl_14, wl_15, wl_16, wl_17, wl_18, wl_19, wl_20, wl_21, wl_22, wl_23, wl_24, wl_25, wl_26, wl_27, wl_28, wl_29, wl_30, wl_31, wl_32, wl_33, wl_34, wl_35, wl_36, wl_37, wl_38, wl_39, wl_40, wl_41, wl_42, wl_43, wl_44, wl_45, wl_46, wl_47, wl_48, wl_49, wl_50, wl_51, wl_52, wl_53, wl_54, wl_55, wl_56, wl_57, wl_58, wl_59, wl_60, wl_61, wl_62, wl_63, wl_64, wl_65, wl_66, wl_67, wl_68, wl_69, wl_70, wl_71, wl_72, wl_73, wl_74, wl_75, wl_76, wl_77, wl_78, wl_79, wl_80, wl_81, wl_82, wl_83, wl_84, wl_85, wl_86, wl_87, wl_88, wl_89, wl_90, wl_91, wl_92, wl_93, wl_94, wl_95, wl_96, wl_97, wl_98, wl_99, wl_100, wl_101, wl_102, wl_103, wl_104, wl_105, wl_106, wl_107, wl_108, wl_109, wl_110, wl_111, wl_112, wl_113, wl_114, wl_115, wl_116, wl_117, wl_118, wl_119, wl_120, wl_121, wl_122, wl_123, wl_124, wl_125, wl_126, wl_127, wl_128, wl_129, wl_130, wl_159, wl_160, wl_200, wl_232, wl_255, wl_256, wl_300, wl_359, wl_360, wl_400, wl_592, wl_992, wl_999, wl_1000, wl_1024, wl_3456, wl_6512, wl_7104, wl_10000, wl_11264, wl_12345, wl_32767, wl_1000000000, wl_1103515245, wl_2000000000, w_add, w_sub, w_mul, w_neg, w_lt, w_le, w_eq, w_cl, w_in, w_nat, w_max2, w_min2, w_abs2, iltT, iltF, ileT, ileF, ieqT, ieqF, bv_01, bft, bv_0, bv_1, bv_t, bv_f, cond_true, cond_false, Bool.not_true, Bool.not_false, if_true, if_false, true_or, or_true, true_and, and_true, ↓reduceIte, decide_true, decide_false, reduceCtorEq, u2_s, u2_o, u2_k, u2_u2, Bool.true_or, Bool.or_true, Bool.false_or, Bool.or_false, Bool.and_true, Bool.true_and, Bool.and_false, Bool.false_and, eq_self, not_true_eq_false, not_false_eq_true, and_self, and_true, true_and, false_and, and_false, w_dv, dvm]
  have g := lp 14 2 0 (.retAddr 0) (.retAddr 0) (by omega) (by omega)
  rw [Int.zero_add] at g
  rw [eq_29]
  exact g
end GAU
