/-! arranged: the class -/
def Lv (O pr : Int → Int) (n : Nat) : Nat → Nat → Int
  | 0, _ => 0
  | r + 1, g => fP (fun k a => if (!g.testBit k.toNat) = true then min (O (pop g) * pr k + Lv O pr n r (g + 2 ^ k.toNat)) a else a) 0 n 1000000000
theorem pop_s {n g k : Nat} (hn : n ≤ 10) (hg : g < 2 ^ n) (hk : k < n) (ht : g.testBit k = false) : g + 2 ^ k < 2 ^ n ∧ pop (g + 2 ^ k) = pop g + 1 ∧ (g ||| 2 ^ k) = g + 2 ^ k := by
  have h10 : 2 ^ n ≤ 2 ^ 10 := Nat.pow_le_pow_right (by omega) hn
  have e10 : (2 : Nat) ^ 10 = 1024 := rfl
  have h1 : g ||| 2 ^ k = g + 2 ^ k ∧ (g + 2 ^ k < 1024 → pop (g + 2 ^ k) = pop g + 1) := pop_add ⟨g, by omega⟩ ⟨k, by omega⟩ ht
  have h2 : g ||| 2 ^ k < 2 ^ n := Nat.or_lt_two_pow hg (Nat.pow_lt_pow_right (by omega) hk)
  rw [h1.1] at h2
  exact ⟨h2, h1.2 (by omega), h1.1⟩
theorem pop_f {n g : Nat} (hn : n ≤ 10) (hg : g < 2 ^ n) : (g ≠ 2 ^ n - 1 → ∃ k, k < n ∧ g.testBit k = false) ∧ pop g ≤ n ∧ (pop g = n → g = 2 ^ n - 1) := by
  have h10 : 2 ^ n ≤ 2 ^ 10 := Nat.pow_le_pow_right (by omega) hn
  have e10 : (2 : Nat) ^ 10 = 1024 := rfl
  have h := pop_full ⟨n, by omega⟩ ⟨g, by omega⟩ hg
  exact ⟨fun z => by obtain ⟨k, h1, h2⟩ := h.1 z; exact ⟨k.val, h1, h2⟩, h.2⟩
/-- the least sum: an end of it, and what it is -/
theorem Lv_s {O pr : Int → Int} {n r g : Nat} (hn : n ≤ 10) (hg : g < 2 ^ n) (hp : pop g + (r + 1) = n) (hO : ∀ j, 0 ≤ O j ∧ O j ≤ 10000) (hr : ∀ k, 0 ≤ k → k < (n : Int) → 0 ≤ pr k ∧ pr k ≤ 999) (ih : ∀ g', g' < 2 ^ n → pop g' + r = n → 0 ≤ Lv O pr n r g' ∧ Lv O pr n r g' ≤ (r : Int) * 9990000) :
    (∀ k, k < n → g.testBit k = false → Lv O pr n (r + 1) g ≤ O (pop g) * pr k + Lv O pr n r (g + 2 ^ k)) ∧ ∃ k, (k < n ∧ g.testBit k = false) ∧ Lv O pr n (r + 1) g = O (pop g) * pr k + Lv O pr n r (g + 2 ^ k) := by
  have hm := fP_minS (S := fun k => !g.testBit k.toNat) (f := fun k => O (pop g) * pr k + Lv O pr n r (g + 2 ^ k.toNat)) n 0 1000000000
  have le : ∀ k : Nat, k < n → g.testBit k = false → Lv O pr n (r + 1) g ≤ O (pop g) * pr k + Lv O pr n r (g + 2 ^ k) := fun k hk ht => by
    have := hm.1.2 (k : Int) (by omega) (by omega) (by rw [Int.toNat_natCast, ht]; rfl)
    rw [Int.toNat_natCast] at this
    exact this
  refine ⟨le, ?_⟩
  rcases hm.2 with h | ⟨j, j1, j2⟩
  · obtain ⟨k, k1, k2⟩ := (pop_f hn hg).1 (fun z => by
      have := pop_all ⟨n, by omega⟩
      rw [z] at hp
      dsimp only at this
      omega)
    have h1 := le k k1 k2
    have hs := pop_s hn hg k1 k2
    have h2 := ih (g + 2 ^ k) hs.1 (by omega)
    have h3 : O (pop g) * pr k ≤ 10000 * 999 := Int.mul_le_mul (hO _).2 (hr k (by omega) (by omega)).2 (hr k (by omega) (by omega)).1 (by omega)
    have h4 : Lv O pr n (r + 1) g = 1000000000 := h
    have h5 : (r : Int) * 9990000 ≤ 10 * 9990000 := Int.mul_le_mul_of_nonneg_right (by omega) (by omega)
    omega
  · refine ⟨j.toNat, ⟨by omega, ?_⟩, ?_⟩
    · have := j1.2.2
      cases c : g.testBit j.toNat with
      | false => rfl
      | true => rw [c] at this; exact nomatch this
    · have e : ((j.toNat : Nat) : Int) = j := by omega
      rw [e]
      exact j2
theorem Lv_b {O pr : Int → Int} {n : Nat} (hn : n ≤ 10) (hO : ∀ j, 0 ≤ O j ∧ O j ≤ 10000) (hr : ∀ k, 0 ≤ k → k < (n : Int) → 0 ≤ pr k ∧ pr k ≤ 999) : ∀ (r g : Nat), g < 2 ^ n → pop g + r = n → 0 ≤ Lv O pr n r g ∧ Lv O pr n r g ≤ (r : Int) * 9990000
  | 0, g, _, _ => by
    have e : Lv O pr n 0 g = 0 := rfl
    rw [e]
    omega
  | r + 1, g, hg, hp => by
    obtain ⟨h1, k, ⟨k1, k2⟩, h2⟩ := Lv_s hn hg hp hO hr (fun g' a b => Lv_b hn hO hr r g' a b)
    have hs := pop_s hn hg k1 k2
    have h3 := Lv_b hn hO hr r (g + 2 ^ k) hs.1 (by omega)
    have q1 := hr k (by omega) (by omega)
    have h4 : O (pop g) * pr k ≤ 10000 * 999 := Int.mul_le_mul (hO _).2 q1.2 q1.1 (by omega)
    have h5 : 0 ≤ O (pop g) * pr k := Int.mul_nonneg (hO _).1 q1.1
    rw [h2]
    omega
/-- the prize that goes to the next block: the first that keeps the sum least -/
def fsF (O pr : Int → Int) (n g : Nat) (k : Nat) : Nat → Nat
  | 0 => 0
  | q + 1 => if g.testBit k = false ∧ O (pop g) * pr k + Lv O pr n (n - pop g - 1) (g + 2 ^ k) = Lv O pr n (n - pop g) g then k else fsF O pr n g (k + 1) q
theorem fsF_s {O pr : Int → Int} {n g : Nat} : ∀ (q k : Nat), k + q = n → (∃ j, (k ≤ j ∧ j < n ∧ g.testBit j = false) ∧ O (pop g) * pr j + Lv O pr n (n - pop g - 1) (g + 2 ^ j) = Lv O pr n (n - pop g) g) → k ≤ fsF O pr n g k q ∧ fsF O pr n g k q < n ∧ g.testBit (fsF O pr n g k q) = false
  | 0, k, hk, ⟨j, ⟨j1, j2, _⟩, _⟩ => by omega
  | q + 1, k, hk, ⟨j, ⟨j1, j2, j3⟩, j4⟩ => by
    unfold fsF
    by_cases c : g.testBit k = false ∧ O (pop g) * pr k + Lv O pr n (n - pop g - 1) (g + 2 ^ k) = Lv O pr n (n - pop g) g
    · rw [if_pos c]
      exact ⟨Nat.le_refl _, by omega, c.1⟩
    · rw [if_neg c]
      have hne : j ≠ k := fun z => c (by rw [← z]; exact ⟨j3, j4⟩)
      have := fsF_s q (k + 1) (by omega) ⟨j, ⟨by omega, j2, j3⟩, j4⟩
      exact ⟨by omega, this.2⟩
/-- which prize goes to block b -/
def arF (O pr : Int → Int) (n : Nat) : Nat → Nat → Nat
  | 0, g => fsF O pr n g 0 n
  | b + 1, g => arF O pr n b (g + 2 ^ fsF O pr n g 0 n)
def vArr (m : Int → Int) (ss : List Int) (ln p h f b : Int) : Int := if b = -1 then Lv (fun j => (BsP m ss ln p h f j).1) (fun k => bl m k 3) (m 3).toNat (m 3).toNat 0 else (arF (fun j => (BsP m ss ln p h f j).1) (fun k => bl m k 3) (m 3).toNat b.toNat 0 : Nat)
def cArr (m : Int → Int) (p h f b : Int) : Int := if vPH m p h ∧ (b = -1 ∨ (0 ≤ b ∧ b < m 3)) then (if 0 ≤ f ∧ f ≤ 59 then 0 else 2) else 1
section ARR
variable {vn vc vw : Nat} {K L : Nat → Nat} {R : Nat → Nat → Nat} {I : Nat → Nat → Int32} {J : Nat → Nat → Int64}
/-- what stands while the class arranges -/
def ArI (K L : Nat → Nat) (R : Nat → Nat → Nat) (I : Nat → Nat → Int32) (m : Int → Int) (O pr : Int → Int) (n : Nat) : Prop := XSH K L R ∧ SHq K L R 91 ∧ Wd I 91 ∧ vS I 91 = m ∧ m 3 = (n : Int) ∧ n ≤ 10 ∧ (∀ j : Nat, j < 10 → I 280 j = w (O j)) ∧ (∀ k : Int, 0 ≤ k → k < n → bl m k 3 = pr k) ∧ (∀ j, 0 ≤ O j ∧ O j ≤ 10000) ∧ ∀ k, 0 ≤ k → k < (n : Int) → 0 ≤ pr k ∧ pr k ≤ 999
theorem ArI_u {I : Nat → Nat → Int32} {m : Int → Int} {O pr : Int → Int} {n k : Nat} {v : Int32} (h : ArI K L R I m O pr n) : ArI K L R (u2 I 284 k v) m O pr n := by
  obtain ⟨h1, h2, h3, h4, h5, h6, h7, h8⟩ := h
  exact ⟨h1, h2, Wd_f' (fun a x => u2_o _ _ _ _ (by omega)) h3, by rw [vS_u (by omega)]; exact h4, h5, h6, fun j hj => by rw [u2_o _ _ _ _ (by decide)]; exact h7 j hj, h8⟩
theorem sp_68 {d g : Nat} {v : Int} (hX : XSH K L R) (hg : g < 1024) (hv : I 284 g = w v) : ev PR (d + 1) 68 [.ref 283, .int (w (g : Int))] (((vn, vc, vw, K, L, R), I, J) : HS) = some (.inl (some (.int (w v))), (((vn, vc, vw, K, L, R), I, J) : HS)) := by
  have e : ix (g : Int) = g := by unfold ix; omega
  rw [eq_68]
  simp (disch := first | assumption | omega | (simp (disch := omega) only [vM_u, vS_u]; first | assumption | omega)) only [hK, hL, hR, hI, hN, sI, hSp, hC, hW, li, lr, ↓cnd_a, ↓cnd_o, ↓cnd_n, ↓cnd_d, ↓z0, ↓z1, ↓z2, y0n, y1i, y2r, y0e, y1e, y2e, wl_0, wl_1, wl_2, wl_3, wl_4, wl_5, wl_6, wl_7, wl_8, wl_9, wl_10, wl_11, wl_12, wl_13, wl_14, wl_15, wl_16, wl_17, wl_18, wl_19, wl_20, wl_21, wl_22, wl_23, wl_24, wl_25, wl_26, wl_27, wl_28, wl_29, wl_30, wl_31, wl_32, wl_33, wl_34, wl_35, wl_36, wl_37, wl_38, wl_39, wl_40, wl_41, wl_42, wl_43, wl_44, wl_45, wl_46, wl_47, wl_48, wl_49, wl_50, wl_51, wl_52, wl_53, wl_54, wl_55, wl_56, wl_57, wl_58, wl_59, wl_60, wl_61, wl_62, wl_63, wl_64, wl_65, wl_66, wl_67, wl_68, wl_69, wl_70, wl_71, wl_72, wl_73, wl_74, wl_75, wl_76, wl_77, wl_78, wl_79, wl_80, wl_81, wl_82, wl_83, wl_84, wl_85, wl_86, wl_87, wl_88, wl_89, wl_90, wl_91, wl_92, wl_93, wl_94, wl_95, wl_96, wl_97, wl_98, wl_99, wl_100, wl_101, wl_102, wl_103, wl_104, wl_105, wl_106, wl_107, wl_108, wl_109, wl_110, wl_111, wl_112, wl_113, wl_114, wl_115, wl_116, wl_117, wl_118, wl_119, wl_120, wl_121, wl_122, wl_123, wl_124, wl_125, wl_126, wl_127, wl_128, wl_129, wl_130, wl_159, wl_160, wl_200, wl_232, wl_255, wl_256, wl_300, wl_359, wl_360, wl_400, wl_592, wl_992, wl_999, wl_1000, wl_1024, wl_3456, wl_6512, wl_7104, wl_10000, wl_11264, wl_12345, wl_32767, wl_1000000000, wl_1103515245, wl_2000000000, w_add, w_sub, w_mul, w_neg, w_lt, w_le, w_eq, w_cl, w_in, w_nat, w_max2, w_min2, w_abs2, iltT, iltF, ileT, ileF, ieqT, ieqF, bv_01, bft, bv_0, bv_1, bv_t, bv_f, cond_true, cond_false, Bool.not_true, Bool.not_false, if_true, if_false, true_or, or_true, true_and, and_true, ↓reduceIte, decide_true, decide_false, reduceCtorEq, u2_s, u2_o, u2_k, u2_u2, Bool.true_or, Bool.or_true, Bool.false_or, Bool.or_false, Bool.and_true, Bool.true_and, Bool.and_false, Bool.false_and, eq_self, not_true_eq_false, not_false_eq_true, and_self, and_true, true_and, false_and, and_false, w_dv, dvm, XSH_e hX, e, hv]
theorem sp_69 {d g : Nat} {v : Int32} (hX : XSH K L R) (hg : g < 1024) : ev PR (d + 1) 69 [.ref 283, .int (w (g : Int)), .int v] (((vn, vc, vw, K, L, R), I, J) : HS) = some (.inl none, (((vn, vc, vw, K, L, R), u2 I 284 g v, J) : HS)) := by
  have e : ix (g : Int) = g := by unfold ix; omega
  rw [eq_69]
  simp (disch := first | assumption | omega | (simp (disch := omega) only [vM_u, vS_u]; first | assumption | omega)) only [hK, hL, hR, hI, hN, sI, hSp, hC, hW, li, lr, ↓cnd_a, ↓cnd_o, ↓cnd_n, ↓cnd_d, ↓z0, ↓z1, ↓z2, y0n, y1i, y2r, y0e, y1e, y2e, wl_0, wl_1, wl_2, wl_3, wl_4, wl_5, wl_6, wl_7, wl_8, wl_9, wl_10, wl_11, wl_12, wl_13, wl_14, wl_15, wl_16, wl_17, wl_18, wl_19, wl_20, wl_21, wl_22, wl_23, wl_24, wl_25, wl_26, wl_27, wl_28, wl_29, wl_30, wl_31, wl_32, wl_33, wl_34, wl_35, wl_36, wl_37, wl_38, wl_39, wl_40, wl_41, wl_42, wl_43, wl_44, wl_45, wl_46, wl_47, wl_48, wl_49, wl_50, wl_51, wl_52, wl_53, wl_54, wl_55, wl_56, wl_57, wl_58, wl_59, wl_60, wl_61, wl_62, wl_63, wl_64, wl_65, wl_66, wl_67, wl_68, wl_69, wl_70, wl_71, wl_72, wl_73, wl_74, wl_75, wl_76, wl_77, wl_78, wl_79, wl_80, wl_81, wl_82, wl_83, wl_84, wl_85, wl_86, wl_87, wl_88, wl_89, wl_90, wl_91, wl_92, wl_93, wl_94, wl_95, wl_96, wl_97, wl_98, wl_99, wl_100, wl_101, wl_102, wl_103, wl_104, wl_105, wl_106, wl_107, wl_108, wl_109, wl_110, wl_111, wl_112, wl_113, wl_114, wl_115, wl_116, wl_117, wl_118, wl_119, wl_120, wl_121, wl_122, wl_123, wl_124, wl_125, wl_126, wl_127, wl_128, wl_129, wl_130, wl_159, wl_160, wl_200, wl_232, wl_255, wl_256, wl_300, wl_359, wl_360, wl_400, wl_592, wl_992, wl_999, wl_1000, wl_1024, wl_3456, wl_6512, wl_7104, wl_10000, wl_11264, wl_12345, wl_32767, wl_1000000000, wl_1103515245, wl_2000000000, w_add, w_sub, w_mul, w_neg, w_lt, w_le, w_eq, w_cl, w_in, w_nat, w_max2, w_min2, w_abs2, iltT, iltF, ileT, ileF, ieqT, ieqF, bv_01, bft, bv_0, bv_1, bv_t, bv_f, cond_true, cond_false, Bool.not_true, Bool.not_false, if_true, if_false, true_or, or_true, true_and, and_true, ↓reduceIte, decide_true, decide_false, reduceCtorEq, u2_s, u2_o, u2_k, u2_u2, Bool.true_or, Bool.or_true, Bool.false_or, Bool.or_false, Bool.and_true, Bool.true_and, Bool.and_false, Bool.false_and, eq_self, not_true_eq_false, not_false_eq_true, and_self, and_true, true_and, false_and, and_false, w_dv, dvm, XSH_e hX, e]
theorem sp_77 {d n r g k : Nat} {m O pr : Int → Int} (hA : ArI K L R I m O pr n) (hg : g < 2 ^ n) (hk : k < n) (ht : g.testBit k = false) (hp : pop g + (r + 1) = n) (hv : I 284 (g + 2 ^ k) = w (Lv O pr n r (g + 2 ^ k))) : ev PR (d + 2) 77 [.ref 283, .ref 91, .int (w (g : Int)), .int (w (k : Int))] (((vn, vc, vw, K, L, R), I, J) : HS) = some (.inl (some (.int (w (O (pop g) * pr k + Lv O pr n r (g + 2 ^ k))))), (((vn, vc, vw, K, L, R), I, J) : HS)) := by
  obtain ⟨hX, h2, h3, h4, h5, h6, h7, h8, h9, h10⟩ := hA
  have hS := h2
  have g10 : 2 ^ n ≤ 2 ^ 10 := Nat.pow_le_pow_right (by omega) h6
  have e10 : (2 : Nat) ^ 10 = 1024 := rfl
  have hs := pop_s h6 hg hk ht
  have s333 := sp_335 (d := d) (σ := (((vn, vc, vw, K, L, R), I, J) : HS)) (g := g) (by omega)
  have i280 := h7 (pop g) (by omega)
  have eo : ix ((pop g : Nat) : Int) = pop g := by unfold ix; omega
  have s96 := sp_96b (d := d) (q := 91) (b := k) (j := 3) (vn := vn) (vc := vc) (vw := vw) (J := J) h2 h3 (by rw [h4]; omega)
  rw [h4, h8 k (by omega) (by omega)] at s96
  have wo := w_or ⟨g, by omega⟩ ⟨k, by omega⟩
  dsimp only at wo
  rw [hs.2.2] at wo
  have wo' : (w (g : Int) ||| (w 1 <<< (w (k : Int) &&& w 31))) = w ((g + 2 ^ k : Nat) : Int) := wo
  have s68 := sp_68 (d := d) (g := g + 2 ^ k) (vn := vn) (vc := vc) (vw := vw) (J := J) hX (by omega) hv
  have kq := (SHq_e h2).1
  have rb := (SHq_e h2).2.1
  have kb := (SHq_e h2).2.2.2.2.2.2.2.1.1
  have hO := h9 (pop g)
  have hr := h10 k (by omega) (by omega)
  have s59 : ev PR (d + 1) 59 [.ref 277, .int (w ((pop g : Nat) : Int)), .int (w 0)] (((vn, vc, vw, K, L, R), I, J) : HS) = some (.inl (some (.int (w (O (pop g))))), (((vn, vc, vw, K, L, R), I, J) : HS)) := by
    rw [eq_59]
    simp (disch := first | assumption | omega | (simp (disch := omega) only [vM_u, vS_u]; first | assumption | omega)) only [hK, hL, hR, hI, hN, sI, hSp, hC, hW, li, lr, ↓cnd_a, ↓cnd_o, ↓cnd_n, ↓cnd_d, ↓z0, ↓z1, ↓z2, y0n, y1i, y2r, y0e, y1e, y2e, wl_0, wl_1, wl_2, wl_3, wl_4, wl_5, wl_6, wl_7, wl_8, wl_9, wl_10, wl_11, wl_12, wl_13, wl_14, wl_15, wl_16, wl_17, wl_18, wl_19, wl_20, wl_21, wl_22, wl_23, wl_24, wl_25, wl_26, wl_27, wl_28, wl_29, wl_30, wl_31, wl_32, wl_33, wl_34, wl_35, wl_36, wl_37, wl_38, wl_39, wl_40, wl_41, wl_42, wl_43, wl_44, wl_45, wl_46, wl_47, wl_48, wl_49, wl_50, wl_51, wl_52, wl_53, wl_54, wl_55, wl_56, wl_57, wl_58, wl_59, wl_60, wl_61, wl_62, wl_63, wl_64, wl_65, wl_66, wl_67, wl_68, wl_69, wl_70, wl_71, wl_72, wl_73, wl_74, wl_75, wl_76, wl_77, wl_78, wl_79, wl_80, wl_81, wl_82, wl_83, wl_84, wl_85, wl_86, wl_87, wl_88, wl_89, wl_90, wl_91, wl_92, wl_93, wl_94, wl_95, wl_96, wl_97, wl_98, wl_99, wl_100, wl_101, wl_102, wl_103, wl_104, wl_105, wl_106, wl_107, wl_108, wl_109, wl_110, wl_111, wl_112, wl_113, wl_114, wl_115, wl_116, wl_117, wl_118, wl_119, wl_120, wl_121, wl_122, wl_123, wl_124, wl_125, wl_126, wl_127, wl_128, wl_129, wl_130, wl_159, wl_160, wl_200, wl_232, wl_255, wl_256, wl_300, wl_359, wl_360, wl_400, wl_592, wl_992, wl_999, wl_1000, wl_1024, wl_3456, wl_6512, wl_7104, wl_10000, wl_11264, wl_12345, wl_32767, wl_1000000000, wl_1103515245, wl_2000000000, w_add, w_sub, w_mul, w_neg, w_lt, w_le, w_eq, w_cl, w_in, w_nat, w_max2, w_min2, w_abs2, iltT, iltF, ileT, ileF, ieqT, ieqF, bv_01, bft, bv_0, bv_1, bv_t, bv_f, cond_true, cond_false, Bool.not_true, Bool.not_false, if_true, if_false, true_or, or_true, true_and, and_true, ↓reduceIte, decide_true, decide_false, reduceCtorEq, u2_s, u2_o, u2_k, u2_u2, Bool.true_or, Bool.or_true, Bool.false_or, Bool.or_false, Bool.and_true, Bool.true_and, Bool.and_false, Bool.false_and, eq_self, not_true_eq_false, not_false_eq_true, and_self, and_true, true_and, false_and, and_false, w_dv, dvm, XSH_e hX, eo, i280]
  rw [eq_77]
  simp (disch := first | assumption | omega | (simp (disch := omega) only [vM_u, vS_u]; first | assumption | omega)) only [hK, hL, hR, hI, hN, sI, hSp, hC, hW, li, lr, ↓cnd_a, ↓cnd_o, ↓cnd_n, ↓cnd_d, ↓z0, ↓z1, ↓z2, y0n, y1i, y2r, y0e, y1e, y2e, wl_0, wl_1, wl_2, wl_3, wl_4, wl_5, wl_6, wl_7, wl_8, wl_9, wl_10, wl_11, wl_12, wl_13, wl_14, wl_15, wl_16, wl_17, wl_18, wl_19, wl_20, wl_21, wl_22, wl_23, wl_24, wl_25, wl_26, wl_27, wl_28, wl_29, wl_30, wl_31, wl_32, wl_33, wl_34, wl_35, wl_36, wl_37, wl_38, wl_39, wl_40, wl_41, wl_42, wl_43, wl_44, wl_45, wl_46, wl_47, wl_48, wl_49, wl_50, wl_51, wl_52, wl_53, wl_54, wl_55, wl_56, wl_57, wl_58, wl_59, wl_60, wl_61, wl_62, wl_63, wl_64, wl_65, wl_66, wl_67, wl_68, wl_69, wl_70, wl_71, wl_72, wl_73, wl_74, wl_75, wl_76, wl_77, wl_78, wl_79, wl_80, wl_81, wl_82, wl_83, wl_84, wl_85, wl_86, wl_87, wl_88, wl_89, wl_90, wl_91, wl_92, wl_93, wl_94, wl_95, wl_96, wl_97, wl_98, wl_99, wl_100, wl_101, wl_102, wl_103, wl_104, wl_105, wl_106, wl_107, wl_108, wl_109, wl_110, wl_111, wl_112, wl_113, wl_114, wl_115, wl_116, wl_117, wl_118, wl_119, wl_120, wl_121, wl_122, wl_123, wl_124, wl_125, wl_126, wl_127, wl_128, wl_129, wl_130, wl_159, wl_160, wl_200, wl_232, wl_255, wl_256, wl_300, wl_359, wl_360, wl_400, wl_592, wl_992, wl_999, wl_1000, wl_1024, wl_3456, wl_6512, wl_7104, wl_10000, wl_11264, wl_12345, wl_32767, wl_1000000000, wl_1103515245, wl_2000000000, w_add, w_sub, w_mul, w_neg, w_lt, w_le, w_eq, w_cl, w_in, w_nat, w_max2, w_min2, w_abs2, iltT, iltF, ileT, ileF, ieqT, ieqF, bv_01, bft, bv_0, bv_1, bv_t, bv_f, cond_true, cond_false, Bool.not_true, Bool.not_false, if_true, if_false, true_or, or_true, true_and, and_true, ↓reduceIte, decide_true, decide_false, reduceCtorEq, u2_s, u2_o, u2_k, u2_u2, Bool.true_or, Bool.or_true, Bool.false_or, Bool.or_false, Bool.and_true, Bool.true_and, Bool.and_false, Bool.false_and, eq_self, not_true_eq_false, not_false_eq_true, and_self, and_true, true_and, false_and, and_false, w_dv, dvm, XSH_e hX, s333, s59, kq, rb, kb, s96, wo', s68]
end ARR
