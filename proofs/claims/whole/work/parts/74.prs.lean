/-! TEXTS, purely: words, blanks, numbers; the reference reads them -/
def W_block : List Int := [98, 108, 111, 99, 107]
def W_side : List Int := [115, 105, 100, 101]
def W_prize : List Int := [112, 114, 105, 122, 101]
def W_velvet : List Int := [118, 101, 108, 118, 101, 116]
def W_hoop : List Int := [104, 111, 111, 112]
def W_oval : List Int := [111, 118, 97, 108]
def W_wet : List Int := [119, 101, 116]
def W_person : List Int := [112, 101, 114, 115, 111, 110]
def W_price : List Int := [112, 114, 105, 99, 101]
def W_bounce : List Int := [98, 111, 117, 110, 99, 101]
def W_knock : List Int := [107, 110, 111, 99, 107]
def W_counts : List Int := [99, 111, 117, 110, 116, 115]
def W_far : List Int := [102, 97, 114]
def W_short : List Int := [115, 104, 111, 114, 116]
def W_right : List Int := [114, 105, 103, 104, 116]
def W_left : List Int := [108, 101, 102, 116]
def W_spread : List Int := [115, 112, 114, 101, 97, 100]
def W_strict : List Int := [115, 116, 114, 105, 99, 116]
def W_if : List Int := [105, 102]
def W_and : List Int := [97, 110, 100]
def W_not : List Int := [110, 111, 116]
def W_who : List Int := [119, 104, 111]
def W_from : List Int := [102, 114, 111, 109]
def W_height : List Int := [104, 101, 105, 103, 104, 116]
def W_pace : List Int := [112, 97, 99, 101]
def W_skill : List Int := [115, 107, 105, 108, 108]
def W_throws : List Int := [116, 104, 114, 111, 119, 115]
def W_or : List Int := [111, 114]
def tW : Nat → List Int := fun r => match r with
  | 1 => W_block
  | 2 => W_side
  | 3 => W_prize
  | 4 => W_velvet
  | 5 => W_hoop
  | 6 => W_oval
  | 7 => W_wet
  | 8 => W_person
  | 9 => W_price
  | 10 => W_bounce
  | 11 => W_knock
  | 12 => W_counts
  | 15 => W_far
  | 16 => W_short
  | 17 => W_right
  | 18 => W_left
  | 19 => W_spread
  | 20 => W_strict
  | 21 => W_if
  | 22 => W_and
  | 23 => W_not
  | 24 => W_wet
  | 25 => W_who
  | 26 => W_hoop
  | 27 => W_from
  | 28 => W_height
  | 29 => W_pace
  | 30 => W_skill
  | 31 => W_throws
  | 32 => W_or
  | 50 => W_far
  | 51 => W_short
  | 52 => W_right
  | 53 => W_left
  | 54 => W_spread
  | 55 => W_strict
  | 56 => W_if
  | 57 => W_not
  | 58 => W_wet
  | 59 => W_who
  | 60 => W_hoop
  | 61 => W_from
  | 62 => W_height
  | 63 => W_pace
  | 64 => W_skill
  | 65 => W_throws
  | 66 => W_and
  | 67 => W_or
  | 68 => W_block
  | 69 => W_side
  | 70 => W_prize
  | 71 => W_velvet
  | 72 => W_oval
  | 73 => W_person
  | 74 => W_price
  | 75 => W_bounce
  | 76 => W_knock
  | 77 => W_counts
  | _ => []
/-- a text constant -/
def SWd (K L : Nat → Nat) (I : Nat → Nat → Int32) (r : Nat) (ws : List Int) : Prop := K r = 30 ∧ L r = ws.length ∧ ∀ i : Nat, i < ws.length → I r i = w (ws.getD i 0)
def SWA (K L : Nat → Nat) (I : Nat → Nat → Int32) : Prop := ∀ r, tW r ≠ [] → SWd K L I r (tW r)
theorem tW_r {r : Nat} (h : tW r ≠ []) : 1 ≤ r ∧ r ≤ 77 := by
  refine ⟨?_, ?_⟩
  · cases r with
    | zero => exact (h rfl).elim
    | succ n => omega
  · refine Nat.not_lt.mp fun q => h ?_
    unfold tW
    split <;> first | omega | rfl
/-! pure reading of a text T that ends at e -/
def skN (T : Int → Int) (p : Int) : Nat → Int
  | 0 => p
  | n + 1 => if T p = 32 then skN T (p + 1) n else p
def sk (T : Int → Int) (e p : Int) : Int := skN T p (e - p).toNat
def lwN (T : Int → Int) (p : Int) : Nat → Int
  | 0 => p
  | n + 1 => if 97 ≤ T p ∧ T p ≤ 122 then lwN T (p + 1) n else p
def lw (T : Int → Int) (e p : Int) : Int := lwN T p (e - p).toNat
def eqW (T : Int → Int) (p : Int) : List Int → Bool
  | [] => true
  | c :: ws => decide (T p = c) && eqW T (p + 1) ws
/-- the word stands at the place (blanks are behind it) -/
def hasB (T : Int → Int) (e p : Int) (ws : List Int) : Bool := decide (lw T e p - p = ws.length) && eqW T p ws
def dgN (T : Int → Int) (b p v : Int) : Nat → Int × Int
  | 0 => (p, v)
  | n + 1 => if (48 ≤ T p ∧ T p ≤ 57) ∧ p - b ≤ 3 then dgN T b (p + 1) (10 * v + T p - 48) n else (p, v)
def dg (T : Int → Int) (e b : Int) : Int × Int := dgN T b b 0 (e - b).toNat
def sgB (T : Int → Int) (e p c : Int) : Bool := decide (p < e) && decide (T p = c)
theorem skN_r (T : Int → Int) : ∀ (n : Nat) (p : Int), p ≤ skN T p n ∧ skN T p n ≤ p + n
  | 0, p => ⟨Int.le_refl _, by show p ≤ p + (0 : Nat); omega⟩
  | n + 1, p => by
    unfold skN
    split
    · have := skN_r T n (p + 1); omega
    · omega
theorem sk_r (T : Int → Int) (e p : Int) : p ≤ sk T e p ∧ (p ≤ e → sk T e p ≤ e) := by
  have := skN_r T (e - p).toNat p
  unfold sk
  omega
theorem lwN_r (T : Int → Int) : ∀ (n : Nat) (p : Int), p ≤ lwN T p n ∧ lwN T p n ≤ p + n
  | 0, p => ⟨Int.le_refl _, by show p ≤ p + (0 : Nat); omega⟩
  | n + 1, p => by
    unfold lwN
    split
    · have := lwN_r T n (p + 1); omega
    · omega
theorem lw_r (T : Int → Int) (e p : Int) : p ≤ lw T e p ∧ (p ≤ e → lw T e p ≤ e) := by
  have := lwN_r T (e - p).toNat p
  unfold lw
  omega
theorem dgN_r (T : Int → Int) : ∀ (n : Nat) (b p v : Int), p ≤ (dgN T b p v n).1 ∧ (dgN T b p v n).1 ≤ p + n ∧ (p ≤ b + 4 → (dgN T b p v n).1 ≤ b + 4)
  | 0, b, p, v => ⟨Int.le_refl _, by show p ≤ p + (0 : Nat); omega, fun h => h⟩
  | n + 1, b, p, v => by
    unfold dgN
    split
    · have := dgN_r T n b (p + 1) (10 * v + T p - 48); omega
    · dsimp only; omega
theorem dgN_v (T : Int → Int) : ∀ (n : Nat) (b p v M : Int), (0 ≤ v ∧ v ≤ M) → 0 ≤ (dgN T b p v n).2 ∧ ((dgN T b p v n).1 = p → (dgN T b p v n).2 ≤ M) ∧ ((dgN T b p v n).1 = p + 1 → (dgN T b p v n).2 ≤ 10 * M + 9) ∧ ((dgN T b p v n).1 = p + 2 → (dgN T b p v n).2 ≤ 100 * M + 99) ∧ ((dgN T b p v n).1 = p + 3 → (dgN T b p v n).2 ≤ 1000 * M + 999) ∧ ((dgN T b p v n).1 = p + 4 → (dgN T b p v n).2 ≤ 10000 * M + 9999)
  | 0, b, p, v, M, h => by unfold dgN; dsimp only; omega
  | n + 1, b, p, v, M, h => by
    unfold dgN
    split
    · have h1 := dgN_v T n b (p + 1) (10 * v + T p - 48) (10 * M + 9) (by omega)
      have h2 := dgN_r T n b (p + 1) (10 * v + T p - 48)
      omega
    · dsimp only; omega
theorem dg_v (T : Int → Int) (e b : Int) : b ≤ (dg T e b).1 ∧ (b ≤ e → (dg T e b).1 ≤ e) ∧ (dg T e b).1 ≤ b + 4 ∧ 0 ≤ (dg T e b).2 ∧ (dg T e b).2 ≤ 9999 := by
  have h1 := dgN_r T (e - b).toNat b b 0
  have h2 := dgN_v T (e - b).toNat b b 0 0 (by omega)
  unfold dg
  omega
/-- the reader's three numbers: at, fault, deep -/
def ps (I : Nat → Nat → Int32) (p fl dp : Int) : Nat → Nat → Int32 := u2 (u2 (u2 I 287 11 (w p)) 287 12 (w fl)) 287 13 (w dp)
theorem ps_11 (I : Nat → Nat → Int32) (p fl dp : Int) : ps I p fl dp 287 11 = w p := by unfold ps; rw [u2_k _ _ _ _ (by decide), u2_k _ _ _ _ (by decide), u2_s]
theorem ps_12 (I : Nat → Nat → Int32) (p fl dp : Int) : ps I p fl dp 287 12 = w fl := by unfold ps; rw [u2_k _ _ _ _ (by decide), u2_s]
theorem ps_13 (I : Nat → Nat → Int32) (p fl dp : Int) : ps I p fl dp 287 13 = w dp := by unfold ps; rw [u2_s]
theorem ps_o (I : Nat → Nat → Int32) (p fl dp : Int) {a b : Nat} (h : a ≠ 287 ∨ b < 11 ∨ 13 < b) : ps I p fl dp a b = I a b := by unfold ps; rw [u2_r, if_neg (by omega), u2_r, if_neg (by omega), u2_r, if_neg (by omega)]
theorem ps_x (I : Nat → Nat → Int32) (p fl dp : Int) (a b : Nat) : ps I p fl dp a b = if a = 287 ∧ b = 13 then w dp else if a = 287 ∧ b = 12 then w fl else if a = 287 ∧ b = 11 then w p else I a b := rfl
theorem ps_w11 (I : Nat → Nat → Int32) (p fl dp q : Int) : u2 (ps I p fl dp) 287 11 (w q) = ps I q fl dp := by
  funext a b
  simp only [u2_r, ps_x]
  by_cases h : a = 287 ∧ b = 11
  · rw [if_pos h, if_neg (by omega), if_neg (by omega), if_pos h]
  · rw [if_neg h, if_neg h, if_neg h]
theorem ps_w12 (I : Nat → Nat → Int32) (p fl dp q : Int) : u2 (ps I p fl dp) 287 12 (w q) = ps I p q dp := by
  funext a b
  simp only [u2_r, ps_x]
  by_cases h : a = 287 ∧ b = 12
  · rw [if_pos h, if_neg (by omega), if_pos h]
  · rw [if_neg h, if_neg h, if_neg h]
theorem ps_w13 (I : Nat → Nat → Int32) (p fl dp q : Int) : u2 (ps I p fl dp) 287 13 (w q) = ps I p fl q := by
  funext a b
  simp only [u2_r, ps_x]
  by_cases h : a = 287 ∧ b = 13
  · rw [if_pos h, if_pos h]
  · rw [if_neg h, if_neg h, if_neg h]
/-- the text lies where the reader looks -/
def TxR (I : Nat → Nat → Int32) (T : Int → Int) (e : Int) : Prop := I 287 10 = w e ∧ (0 ≤ e ∧ e ≤ 400) ∧ (∀ k, 0 ≤ k → k < e → 0 ≤ T k ∧ T k ≤ 255) ∧ ((I 287 9 = w (-1) ∧ ∀ k, 0 ≤ k → k < e → I 292 (ix k) = w (T k)) ∨ (I 287 9 = w 592 ∧ ∀ k, 0 ≤ k → k < e → I 288 (ix (592 + k)) = w (T k)))
section PRS
variable {vn vc vw : Nat} {K L : Nat → Nat} {R : Nat → Nat → Nat} {I : Nat → Nat → Int32} {J : Nat → Nat → Int64}
theorem sp_232 {d : Nat} {T : Int → Int} {e k p fl dp : Int} (hM : MSH K L R) (hT : TxR I T e) (hk : 0 ≤ k ∧ k < e) : ev PR (d + 1) 232 [.ref 287, .int (w k)] (((vn, vc, vw, K, L, R), ps I p fl dp, J) : HS) = some (.inl (some (.int (w (T k)))), (((vn, vc, vw, K, L, R), ps I p fl dp, J) : HS)) := by
  obtain ⟨t1, t2, t3, t4⟩ := hT
  rw [eq_232]
  rcases t4 with ⟨t4, t5⟩ | ⟨t4, t5⟩
  · have e1 := t5 k hk.1 hk.2
    simp (disch := first | assumption | omega | (simp (disch := omega) only [vM_u, vS_u]; first | assumption | omega)) only [hK, hL, hR, hI, hN, sI, hSp, hC, hW, li, lr, ↓cnd_a, ↓cnd_o, ↓cnd_n, ↓cnd_d, ↓z0, ↓z1, ↓z2, y0n, y1i, y2r, y0e, y1e, y2e, wl_0, wl_1, wl_2, wl_3, wl_4, wl_5, wl_6, wl_7, wl_8, wl_9, wl_10, wl_11, wl_12, wl_13, wl_14, wl_15, wl_16, wl_17, wl_18, wl_19, wl_20, wl_21, wl_22, wl_23, wl_24, wl_25, wl_26, wl_27, wl_28, wl_29, wl_30, wl_31, wl_32, wl_33, wl_34, wl_35, wl_36, wl_37, wl_38, wl_39, wl_40, wl_41, wl_42, wl_43, wl_44, wl_45, wl_46, wl_47, wl_48, wl_49, wl_50, wl_51, wl_52, wl_53, wl_54, wl_55, wl_56, wl_57, wl_58, wl_59, wl_60, wl_61, wl_62, wl_63, wl_64, wl_65, wl_66, wl_67, wl_68, wl_69, wl_70, wl_71, wl_72, wl_73, wl_74, wl_75, wl_76, wl_77, wl_78, wl_79, wl_80, wl_81, wl_82, wl_83, wl_84, wl_85, wl_86, wl_87, wl_88, wl_89, wl_90, wl_91, wl_92, wl_93, wl_94, wl_95, wl_96, wl_97, wl_98, wl_99, wl_100, wl_101, wl_102, wl_103, wl_104, wl_105, wl_106, wl_107, wl_108, wl_109, wl_110, wl_111, wl_112, wl_113, wl_114, wl_115, wl_116, wl_117, wl_118, wl_119, wl_120, wl_121, wl_122, wl_123, wl_124, wl_125, wl_126, wl_127, wl_128, wl_129, wl_130, wl_159, wl_160, wl_200, wl_232, wl_255, wl_256, wl_300, wl_359, wl_360, wl_400, wl_592, wl_992, wl_999, wl_1000, wl_1024, wl_3456, wl_6512, wl_7104, wl_10000, wl_11264, wl_12345, wl_32767, wl_1000000000, wl_1103515245, wl_2000000000, w_add, w_sub, w_mul, w_neg, w_lt, w_le, w_eq, w_cl, w_in, w_nat, w_max2, w_min2, w_abs2, iltT, iltF, ileT, ileF, ieqT, ieqF, bv_01, bft, bv_0, bv_1, bv_t, bv_f, cond_true, cond_false, Bool.not_true, Bool.not_false, if_true, if_false, true_or, or_true, true_and, and_true, ↓reduceIte, decide_true, decide_false, reduceCtorEq, u2_s, u2_o, u2_k, u2_u2, Bool.true_or, Bool.or_true, Bool.false_or, Bool.or_false, Bool.and_true, Bool.true_and, Bool.and_false, Bool.false_and, eq_self, not_true_eq_false, not_false_eq_true, and_self, and_true, true_and, false_and, and_false, w_dv, dvm, MSH_e hM, ps_o, t4, e1]
  · have e1 := t5 k hk.1 hk.2
    simp (disch := first | assumption | omega | (simp (disch := omega) only [vM_u, vS_u]; first | assumption | omega)) only [hK, hL, hR, hI, hN, sI, hSp, hC, hW, li, lr, ↓cnd_a, ↓cnd_o, ↓cnd_n, ↓cnd_d, ↓z0, ↓z1, ↓z2, y0n, y1i, y2r, y0e, y1e, y2e, wl_0, wl_1, wl_2, wl_3, wl_4, wl_5, wl_6, wl_7, wl_8, wl_9, wl_10, wl_11, wl_12, wl_13, wl_14, wl_15, wl_16, wl_17, wl_18, wl_19, wl_20, wl_21, wl_22, wl_23, wl_24, wl_25, wl_26, wl_27, wl_28, wl_29, wl_30, wl_31, wl_32, wl_33, wl_34, wl_35, wl_36, wl_37, wl_38, wl_39, wl_40, wl_41, wl_42, wl_43, wl_44, wl_45, wl_46, wl_47, wl_48, wl_49, wl_50, wl_51, wl_52, wl_53, wl_54, wl_55, wl_56, wl_57, wl_58, wl_59, wl_60, wl_61, wl_62, wl_63, wl_64, wl_65, wl_66, wl_67, wl_68, wl_69, wl_70, wl_71, wl_72, wl_73, wl_74, wl_75, wl_76, wl_77, wl_78, wl_79, wl_80, wl_81, wl_82, wl_83, wl_84, wl_85, wl_86, wl_87, wl_88, wl_89, wl_90, wl_91, wl_92, wl_93, wl_94, wl_95, wl_96, wl_97, wl_98, wl_99, wl_100, wl_101, wl_102, wl_103, wl_104, wl_105, wl_106, wl_107, wl_108, wl_109, wl_110, wl_111, wl_112, wl_113, wl_114, wl_115, wl_116, wl_117, wl_118, wl_119, wl_120, wl_121, wl_122, wl_123, wl_124, wl_125, wl_126, wl_127, wl_128, wl_129, wl_130, wl_159, wl_160, wl_200, wl_232, wl_255, wl_256, wl_300, wl_359, wl_360, wl_400, wl_592, wl_992, wl_999, wl_1000, wl_1024, wl_3456, wl_6512, wl_7104, wl_10000, wl_11264, wl_12345, wl_32767, wl_1000000000, wl_1103515245, wl_2000000000, w_add, w_sub, w_mul, w_neg, w_lt, w_le, w_eq, w_cl, w_in, w_nat, w_max2, w_min2, w_abs2, iltT, iltF, ileT, ileF, ieqT, ieqF, bv_01, bft, bv_0, bv_1, bv_t, bv_f, cond_true, cond_false, Bool.not_true, Bool.not_false, if_true, if_false, true_or, or_true, true_and, and_true, ↓reduceIte, decide_true, decide_false, reduceCtorEq, u2_s, u2_o, u2_k, u2_u2, Bool.true_or, Bool.or_true, Bool.false_or, Bool.or_false, Bool.and_true, Bool.true_and, Bool.and_false, Bool.false_and, eq_self, not_true_eq_false, not_false_eq_true, and_self, and_true, true_and, false_and, and_false, w_dv, dvm, MSH_e hM, ps_o, t4, e1]
theorem sp_233 {d : Nat} {T : Int → Int} {e p fl dp : Int} (hM : MSH K L R) (hT : TxR I T e) (hp : 0 ≤ p ∧ p ≤ 100000) : ev PR (d + 2) 233 [.ref 287] (((vn, vc, vw, K, L, R), ps I p fl dp, J) : HS) = some (.inl none, (((vn, vc, vw, K, L, R), ps I (sk T e p) fl dp, J) : HS)) := by
  have t1 := hT.1
  have t2 := hT.2.1
  have lp : ∀ (n : Nat) (p : Int), 0 ≤ p → p ≤ 100000 → (e - p).toNat = n → atv PR (d + 1) cd_233 0 [.ref 287] [] (((vn, vc, vw, K, L, R), ps I p fl dp, J) : HS) = some (.inl none, (((vn, vc, vw, K, L, R), ps I (skN T p n) fl dp, J) : HS)) := by
    intro n
    induction n with
    | zero =>
      intro p hp hp2 he
      rw [eq_233_0]
      simp (disch := first | assumption | omega | (simp (disch := omega) only [vM_u, vS_u]; first | assumption | omega)) only [hK, hL, hR, hI, hN, sI, hSp, hC, hW, li, lr, ↓cnd_a, ↓cnd_o, ↓cnd_n, ↓cnd_d, ↓z0, ↓z1, ↓z2, y0n, y1i, y2r, y0e, y1e, y2e, wl_0, wl_1, wl_2, wl_3, wl_4, wl_5, wl_6, wl_7, wl_8, wl_9, wl_10, wl_11, wl_12, wl_13, wl_14, wl_15, wl_16, wl_17, wl_18, wl_19, wl_20, wl_21, wl_22, wl_23, wl_24, wl_25, wl_26, wl_27, wl_28, wl_29, wl_30, wl_31, wl_32, wl_33, wl_34, wl_35, wl_36, wl_37, wl_38, wl_39, wl_40, wl_41, wl_42, wl_43, wl_44, wl_45, wl_46, wl_47, wl_48, wl_49, wl_50, wl_51, wl_52, wl_53, wl_54, wl_55, wl_56, wl_57, wl_58, wl_59, wl_60, wl_61, wl_62, wl_63, wl_64, wl_65, wl_66, wl_67, wl_68, wl_69, wl_70, wl_71, wl_72, wl_73, wl_74, wl_75, wl_76, wl_77, wl_78, wl_79, wl_80, wl_81, wl_82, wl_83, wl_84, wl_85, wl_86, wl_87, wl_88, wl_89, wl_90, wl_91, wl_92, wl_93, wl_94, wl_95, wl_96, wl_97, wl_98, wl_99, wl_100, wl_101, wl_102, wl_103, wl_104, wl_105, wl_106, wl_107, wl_108, wl_109, wl_110, wl_111, wl_112, wl_113, wl_114, wl_115, wl_116, wl_117, wl_118, wl_119, wl_120, wl_121, wl_122, wl_123, wl_124, wl_125, wl_126, wl_127, wl_128, wl_129, wl_130, wl_159, wl_160, wl_200, wl_232, wl_255, wl_256, wl_300, wl_359, wl_360, wl_400, wl_592, wl_992, wl_999, wl_1000, wl_1024, wl_3456, wl_6512, wl_7104, wl_10000, wl_11264, wl_12345, wl_32767, wl_1000000000, wl_1103515245, wl_2000000000, w_add, w_sub, w_mul, w_neg, w_lt, w_le, w_eq, w_cl, w_in, w_nat, w_max2, w_min2, w_abs2, iltT, iltF, ileT, ileF, ieqT, ieqF, bv_01, bft, bv_0, bv_1, bv_t, bv_f, cond_true, cond_false, Bool.not_true, Bool.not_false, if_true, if_false, true_or, or_true, true_and, and_true, ↓reduceIte, decide_true, decide_false, reduceCtorEq, u2_s, u2_o, u2_k, u2_u2, Bool.true_or, Bool.or_true, Bool.false_or, Bool.or_false, Bool.and_true, Bool.true_and, Bool.and_false, Bool.false_and, eq_self, not_true_eq_false, not_false_eq_true, and_self, and_true, true_and, false_and, and_false, w_dv, dvm, MSH_e hM, ps_11, ps_o, t1]
      rfl
    | succ n ih =>
      intro p hp hp2 he
      have hc := hT.2.2.1 p hp (by omega)
      rw [eq_233_0]
      unfold skN
      by_cases c : T p = 32
      · simp (disch := first | assumption | omega | (simp (disch := omega) only [vM_u, vS_u]; first | assumption | omega)) only [hK, hL, hR, hI, hN, sI, hSp, hC, hW, li, lr, ↓cnd_a, ↓cnd_o, ↓cnd_n, ↓cnd_d, ↓z0, ↓z1, ↓z2, y0n, y1i, y2r, y0e, y1e, y2e, wl_0, wl_1, wl_2, wl_3, wl_4, wl_5, wl_6, wl_7, wl_8, wl_9, wl_10, wl_11, wl_12, wl_13, wl_14, wl_15, wl_16, wl_17, wl_18, wl_19, wl_20, wl_21, wl_22, wl_23, wl_24, wl_25, wl_26, wl_27, wl_28, wl_29, wl_30, wl_31, wl_32, wl_33, wl_34, wl_35, wl_36, wl_37, wl_38, wl_39, wl_40, wl_41, wl_42, wl_43, wl_44, wl_45, wl_46, wl_47, wl_48, wl_49, wl_50, wl_51, wl_52, wl_53, wl_54, wl_55, wl_56, wl_57, wl_58, wl_59, wl_60, wl_61, wl_62, wl_63, wl_64, wl_65, wl_66, wl_67, wl_68, wl_69, wl_70, wl_71, wl_72, wl_73, wl_74, wl_75, wl_76, wl_77, wl_78, wl_79, wl_80, wl_81, wl_82, wl_83, wl_84, wl_85, wl_86, wl_87, wl_88, wl_89, wl_90, wl_91, wl_92, wl_93, wl_94, wl_95, wl_96, wl_97, wl_98, wl_99, wl_100, wl_101, wl_102, wl_103, wl_104, wl_105, wl_106, wl_107, wl_108, wl_109, wl_110, wl_111, wl_112, wl_113, wl_114, wl_115, wl_116, wl_117, wl_118, wl_119, wl_120, wl_121, wl_122, wl_123, wl_124, wl_125, wl_126, wl_127, wl_128, wl_129, wl_130, wl_159, wl_160, wl_200, wl_232, wl_255, wl_256, wl_300, wl_359, wl_360, wl_400, wl_592, wl_992, wl_999, wl_1000, wl_1024, wl_3456, wl_6512, wl_7104, wl_10000, wl_11264, wl_12345, wl_32767, wl_1000000000, wl_1103515245, wl_2000000000, w_add, w_sub, w_mul, w_neg, w_lt, w_le, w_eq, w_cl, w_in, w_nat, w_max2, w_min2, w_abs2, iltT, iltF, ileT, ileF, ieqT, ieqF, bv_01, bft, bv_0, bv_1, bv_t, bv_f, cond_true, cond_false, Bool.not_true, Bool.not_false, if_true, if_false, true_or, or_true, true_and, and_true, ↓reduceIte, decide_true, decide_false, reduceCtorEq, u2_s, u2_o, u2_k, u2_u2, Bool.true_or, Bool.or_true, Bool.false_or, Bool.or_false, Bool.and_true, Bool.true_and, Bool.and_false, Bool.false_and, eq_self, not_true_eq_false, not_false_eq_true, and_self, and_true, true_and, false_and, and_false, w_dv, dvm, MSH_e hM, ps_11, ps_w11, ps_o, t1, sp_232 hM hT, c]
        exact ih (p + 1) (by omega) (by omega) (by omega)
      · simp (disch := first | assumption | omega | (simp (disch := omega) only [vM_u, vS_u]; first | assumption | omega)) only [hK, hL, hR, hI, hN, sI, hSp, hC, hW, li, lr, ↓cnd_a, ↓cnd_o, ↓cnd_n, ↓cnd_d, ↓z0, ↓z1, ↓z2, y0n, y1i, y2r, y0e, y1e, y2e, wl_0, wl_1, wl_2, wl_3, wl_4, wl_5, wl_6, wl_7, wl_8, wl_9, wl_10, wl_11, wl_12, wl_13, wl_14, wl_15, wl_16, wl_17, wl_18, wl_19, wl_20, wl_21, wl_22, wl_23, wl_24, wl_25, wl_26, wl_27, wl_28, wl_29, wl_30, wl_31, wl_32, wl_33, wl_34, wl_35, wl_36, wl_37, wl_38, wl_39, wl_40, wl_41, wl_42, wl_43, wl_44, wl_45, wl_46, wl_47, wl_48, wl_49, wl_50, wl_51, wl_52, wl_53, wl_54, wl_55, wl_56, wl_57, wl_58, wl_59, wl_60, wl_61, wl_62, wl_63, wl_64, wl_65, wl_66, wl_67, wl_68, wl_69, wl_70, wl_71, wl_72, wl_73, wl_74, wl_75, wl_76, wl_77, wl_78, wl_79, wl_80, wl_81, wl_82, wl_83, wl_84, wl_85, wl_86, wl_87, wl_88, wl_89, wl_90, wl_91, wl_92, wl_93, wl_94, wl_95, wl_96, wl_97, wl_98, wl_99, wl_100, wl_101, wl_102, wl_103, wl_104, wl_105, wl_106, wl_107, wl_108, wl_109, wl_110, wl_111, wl_112, wl_113, wl_114, wl_115, wl_116, wl_117, wl_118, wl_119, wl_120, wl_121, wl_122, wl_123, wl_124, wl_125, wl_126, wl_127, wl_128, wl_129, wl_130, wl_159, wl_160, wl_200, wl_232, wl_255, wl_256, wl_300, wl_359, wl_360, wl_400, wl_592, wl_992, wl_999, wl_1000, wl_1024, wl_3456, wl_6512, wl_7104, wl_10000, wl_11264, wl_12345, wl_32767, wl_1000000000, wl_1103515245, wl_2000000000, w_add, w_sub, w_mul, w_neg, w_lt, w_le, w_eq, w_cl, w_in, w_nat, w_max2, w_min2, w_abs2, iltT, iltF, ileT, ileF, ieqT, ieqF, bv_01, bft, bv_0, bv_1, bv_t, bv_f, cond_true, cond_false, Bool.not_true, Bool.not_false, if_true, if_false, true_or, or_true, true_and, and_true, ↓reduceIte, decide_true, decide_false, reduceCtorEq, u2_s, u2_o, u2_k, u2_u2, Bool.true_or, Bool.or_true, Bool.false_or, Bool.or_false, Bool.and_true, Bool.true_and, Bool.and_false, Bool.false_and, eq_self, not_true_eq_false, not_false_eq_true, and_self, and_true, true_and, false_and, and_false, w_dv, dvm, MSH_e hM, ps_11, ps_o, t1, sp_232 hM hT]
  rw [eq_233]
  exact lp _ p hp.1 hp.2 rfl
theorem sp_238 {d : Nat} {T : Int → Int} {e p fl dp : Int} (hM : MSH K L R) (hT : TxR I T e) (hp : 0 ≤ p ∧ p ≤ 100000) : ev PR (d + 3) 238 [.ref 287] (((vn, vc, vw, K, L, R), ps I p fl dp, J) : HS) = some (.inl (some (.int (w (sk T e p)))), (((vn, vc, vw, K, L, R), ps I (sk T e p) fl dp, J) : HS)) := by
  rw [eq_238]
  simp (disch := first | assumption | omega | (simp (disch := omega) only [vM_u, vS_u]; first | assumption | omega)) only [hK, hL, hR, hI, hN, sI, hSp, hC, hW, li, lr, ↓cnd_a, ↓cnd_o, ↓cnd_n, ↓cnd_d, ↓z0, ↓z1, ↓z2, y0n, y1i, y2r, y0e, y1e, y2e, wl_0, wl_1, wl_2, wl_3, wl_4, wl_5, wl_6, wl_7, wl_8, wl_9, wl_10, wl_11, wl_12, wl_13, wl_14, wl_15, wl_16, wl_17, wl_18, wl_19, wl_20, wl_21, wl_22, wl_23, wl_24, wl_25, wl_26, wl_27, wl_28, wl_29, wl_30, wl_31, wl_32, wl_33, wl_34, wl_35, wl_36, wl_37, wl_38, wl_39, wl_40, wl_41, wl_42, wl_43, wl_44, wl_45, wl_46, wl_47, wl_48, wl_49, wl_50, wl_51, wl_52, wl_53, wl_54, wl_55, wl_56, wl_57, wl_58, wl_59, wl_60, wl_61, wl_62, wl_63, wl_64, wl_65, wl_66, wl_67, wl_68, wl_69, wl_70, wl_71, wl_72, wl_73, wl_74, wl_75, wl_76, wl_77, wl_78, wl_79, wl_80, wl_81, wl_82, wl_83, wl_84, wl_85, wl_86, wl_87, wl_88, wl_89, wl_90, wl_91, wl_92, wl_93, wl_94, wl_95, wl_96, wl_97, wl_98, wl_99, wl_100, wl_101, wl_102, wl_103, wl_104, wl_105, wl_106, wl_107, wl_108, wl_109, wl_110, wl_111, wl_112, wl_113, wl_114, wl_115, wl_116, wl_117, wl_118, wl_119, wl_120, wl_121, wl_122, wl_123, wl_124, wl_125, wl_126, wl_127, wl_128, wl_129, wl_130, wl_159, wl_160, wl_200, wl_232, wl_255, wl_256, wl_300, wl_359, wl_360, wl_400, wl_592, wl_992, wl_999, wl_1000, wl_1024, wl_3456, wl_6512, wl_7104, wl_10000, wl_11264, wl_12345, wl_32767, wl_1000000000, wl_1103515245, wl_2000000000, w_add, w_sub, w_mul, w_neg, w_lt, w_le, w_eq, w_cl, w_in, w_nat, w_max2, w_min2, w_abs2, iltT, iltF, ileT, ileF, ieqT, ieqF, bv_01, bft, bv_0, bv_1, bv_t, bv_f, cond_true, cond_false, Bool.not_true, Bool.not_false, if_true, if_false, true_or, or_true, true_and, and_true, ↓reduceIte, decide_true, decide_false, reduceCtorEq, u2_s, u2_o, u2_k, u2_u2, Bool.true_or, Bool.or_true, Bool.false_or, Bool.or_false, Bool.and_true, Bool.true_and, Bool.and_false, Bool.false_and, eq_self, not_true_eq_false, not_false_eq_true, and_self, and_true, true_and, false_and, and_false, w_dv, dvm, MSH_e hM, sp_233 hM hT, ps_11]
theorem sp_234 {d : Nat} {T : Int → Int} {e p fl dp c : Int} (hM : MSH K L R) (hT : TxR I T e) (hp : 0 ≤ p ∧ p ≤ 100000) (hc : 0 ≤ c ∧ c ≤ 255) : ev PR (d + 3) 234 [.ref 287, .int (w c)] (((vn, vc, vw, K, L, R), ps I p fl dp, J) : HS) = some (.inl (some (.int (bv (sgB T e (sk T e p) c)))), (((vn, vc, vw, K, L, R), ps I (sk T e p) fl dp, J) : HS)) := by
  have t1 := hT.1
  have t2 := hT.2.1
  have hs := sk_r T e p
  rw [eq_234]
  unfold sgB
  by_cases c1 : sk T e p < e
  · have hq := hT.2.2.1 (sk T e p) (by omega) c1
    by_cases c2 : T (sk T e p) = c
    · simp (disch := first | assumption | omega | (simp (disch := omega) only [vM_u, vS_u]; first | assumption | omega)) only [hK, hL, hR, hI, hN, sI, hSp, hC, hW, li, lr, ↓cnd_a, ↓cnd_o, ↓cnd_n, ↓cnd_d, ↓z0, ↓z1, ↓z2, y0n, y1i, y2r, y0e, y1e, y2e, wl_0, wl_1, wl_2, wl_3, wl_4, wl_5, wl_6, wl_7, wl_8, wl_9, wl_10, wl_11, wl_12, wl_13, wl_14, wl_15, wl_16, wl_17, wl_18, wl_19, wl_20, wl_21, wl_22, wl_23, wl_24, wl_25, wl_26, wl_27, wl_28, wl_29, wl_30, wl_31, wl_32, wl_33, wl_34, wl_35, wl_36, wl_37, wl_38, wl_39, wl_40, wl_41, wl_42, wl_43, wl_44, wl_45, wl_46, wl_47, wl_48, wl_49, wl_50, wl_51, wl_52, wl_53, wl_54, wl_55, wl_56, wl_57, wl_58, wl_59, wl_60, wl_61, wl_62, wl_63, wl_64, wl_65, wl_66, wl_67, wl_68, wl_69, wl_70, wl_71, wl_72, wl_73, wl_74, wl_75, wl_76, wl_77, wl_78, wl_79, wl_80, wl_81, wl_82, wl_83, wl_84, wl_85, wl_86, wl_87, wl_88, wl_89, wl_90, wl_91, wl_92, wl_93, wl_94, wl_95, wl_96, wl_97, wl_98, wl_99, wl_100, wl_101, wl_102, wl_103, wl_104, wl_105, wl_106, wl_107, wl_108, wl_109, wl_110, wl_111, wl_112, wl_113, wl_114, wl_115, wl_116, wl_117, wl_118, wl_119, wl_120, wl_121, wl_122, wl_123, wl_124, wl_125, wl_126, wl_127, wl_128, wl_129, wl_130, wl_159, wl_160, wl_200, wl_232, wl_255, wl_256, wl_300, wl_359, wl_360, wl_400, wl_592, wl_992, wl_999, wl_1000, wl_1024, wl_3456, wl_6512, wl_7104, wl_10000, wl_11264, wl_12345, wl_32767, wl_1000000000, wl_1103515245, wl_2000000000, w_add, w_sub, w_mul, w_neg, w_lt, w_le, w_eq, w_cl, w_in, w_nat, w_max2, w_min2, w_abs2, iltT, iltF, ileT, ileF, ieqT, ieqF, bv_01, bft, bv_0, bv_1, bv_t, bv_f, cond_true, cond_false, Bool.not_true, Bool.not_false, if_true, if_false, true_or, or_true, true_and, and_true, ↓reduceIte, decide_true, decide_false, reduceCtorEq, u2_s, u2_o, u2_k, u2_u2, Bool.true_or, Bool.or_true, Bool.false_or, Bool.or_false, Bool.and_true, Bool.true_and, Bool.and_false, Bool.false_and, eq_self, not_true_eq_false, not_false_eq_true, and_self, and_true, true_and, false_and, and_false, w_dv, dvm, MSH_e hM, sp_233 hM hT, ps_11, ps_o, t1, sp_232 hM hT, c2]
    · simp (disch := first | assumption | omega | (simp (disch := omega) only [vM_u, vS_u]; first | assumption | omega)) only [hK, hL, hR, hI, hN, sI, hSp, hC, hW, li, lr, ↓cnd_a, ↓cnd_o, ↓cnd_n, ↓cnd_d, ↓z0, ↓z1, ↓z2, y0n, y1i, y2r, y0e, y1e, y2e, wl_0, wl_1, wl_2, wl_3, wl_4, wl_5, wl_6, wl_7, wl_8, wl_9, wl_10, wl_11, wl_12, wl_13, wl_14, wl_15, wl_16, wl_17, wl_18, wl_19, wl_20, wl_21, wl_22, wl_23, wl_24, wl_25, wl_26, wl_27, wl_28, wl_29, wl_30, wl_31, wl_32, wl_33, wl_34, wl_35, wl_36, wl_37, wl_38, wl_39, wl_40, wl_41, wl_42, wl_43, wl_44, wl_45, wl_46, wl_47, wl_48, wl_49, wl_50, wl_51, wl_52, wl_53, wl_54, wl_55, wl_56, wl_57, wl_58, wl_59, wl_60, wl_61, wl_62, wl_63, wl_64, wl_65, wl_66, wl_67, wl_68, wl_69, wl_70, wl_71, wl_72, wl_73, wl_74, wl_75, wl_76, wl_77, wl_78, wl_79, wl_80, wl_81, wl_82, wl_83, wl_84, wl_85, wl_86, wl_87, wl_88, wl_89, wl_90, wl_91, wl_92, wl_93, wl_94, wl_95, wl_96, wl_97, wl_98, wl_99, wl_100, wl_101, wl_102, wl_103, wl_104, wl_105, wl_106, wl_107, wl_108, wl_109, wl_110, wl_111, wl_112, wl_113, wl_114, wl_115, wl_116, wl_117, wl_118, wl_119, wl_120, wl_121, wl_122, wl_123, wl_124, wl_125, wl_126, wl_127, wl_128, wl_129, wl_130, wl_159, wl_160, wl_200, wl_232, wl_255, wl_256, wl_300, wl_359, wl_360, wl_400, wl_592, wl_992, wl_999, wl_1000, wl_1024, wl_3456, wl_6512, wl_7104, wl_10000, wl_11264, wl_12345, wl_32767, wl_1000000000, wl_1103515245, wl_2000000000, w_add, w_sub, w_mul, w_neg, w_lt, w_le, w_eq, w_cl, w_in, w_nat, w_max2, w_min2, w_abs2, iltT, iltF, ileT, ileF, ieqT, ieqF, bv_01, bft, bv_0, bv_1, bv_t, bv_f, cond_true, cond_false, Bool.not_true, Bool.not_false, if_true, if_false, true_or, or_true, true_and, and_true, ↓reduceIte, decide_true, decide_false, reduceCtorEq, u2_s, u2_o, u2_k, u2_u2, Bool.true_or, Bool.or_true, Bool.false_or, Bool.or_false, Bool.and_true, Bool.true_and, Bool.and_false, Bool.false_and, eq_self, not_true_eq_false, not_false_eq_true, and_self, and_true, true_and, false_and, and_false, w_dv, dvm, MSH_e hM, sp_233 hM hT, ps_11, ps_o, t1, sp_232 hM hT, c2]
  · have hsk : sk T e p ≤ 200000 := by have := skN_r T (e - p).toNat p; unfold sk; omega
    simp (disch := first | assumption | omega | (simp (disch := omega) only [vM_u, vS_u]; first | assumption | omega)) only [hK, hL, hR, hI, hN, sI, hSp, hC, hW, li, lr, ↓cnd_a, ↓cnd_o, ↓cnd_n, ↓cnd_d, ↓z0, ↓z1, ↓z2, y0n, y1i, y2r, y0e, y1e, y2e, wl_0, wl_1, wl_2, wl_3, wl_4, wl_5, wl_6, wl_7, wl_8, wl_9, wl_10, wl_11, wl_12, wl_13, wl_14, wl_15, wl_16, wl_17, wl_18, wl_19, wl_20, wl_21, wl_22, wl_23, wl_24, wl_25, wl_26, wl_27, wl_28, wl_29, wl_30, wl_31, wl_32, wl_33, wl_34, wl_35, wl_36, wl_37, wl_38, wl_39, wl_40, wl_41, wl_42, wl_43, wl_44, wl_45, wl_46, wl_47, wl_48, wl_49, wl_50, wl_51, wl_52, wl_53, wl_54, wl_55, wl_56, wl_57, wl_58, wl_59, wl_60, wl_61, wl_62, wl_63, wl_64, wl_65, wl_66, wl_67, wl_68, wl_69, wl_70, wl_71, wl_72, wl_73, wl_74, wl_75, wl_76, wl_77, wl_78, wl_79, wl_80, wl_81, wl_82, wl_83, wl_84, wl_85, wl_86, wl_87, wl_88, wl_89, wl_90, wl_91, wl_92, wl_93, wl_94, wl_95, wl_96, wl_97, wl_98, wl_99, wl_100, wl_101, wl_102, wl_103, wl_104, wl_105, wl_106, wl_107, wl_108, wl_109, wl_110, wl_111, wl_112, wl_113, wl_114, wl_115, wl_116, wl_117, wl_118, wl_119, wl_120, wl_121, wl_122, wl_123, wl_124, wl_125, wl_126, wl_127, wl_128, wl_129, wl_130, wl_159, wl_160, wl_200, wl_232, wl_255, wl_256, wl_300, wl_359, wl_360, wl_400, wl_592, wl_992, wl_999, wl_1000, wl_1024, wl_3456, wl_6512, wl_7104, wl_10000, wl_11264, wl_12345, wl_32767, wl_1000000000, wl_1103515245, wl_2000000000, w_add, w_sub, w_mul, w_neg, w_lt, w_le, w_eq, w_cl, w_in, w_nat, w_max2, w_min2, w_abs2, iltT, iltF, ileT, ileF, ieqT, ieqF, bv_01, bft, bv_0, bv_1, bv_t, bv_f, cond_true, cond_false, Bool.not_true, Bool.not_false, if_true, if_false, true_or, or_true, true_and, and_true, ↓reduceIte, decide_true, decide_false, reduceCtorEq, u2_s, u2_o, u2_k, u2_u2, Bool.true_or, Bool.or_true, Bool.false_or, Bool.or_false, Bool.and_true, Bool.true_and, Bool.and_false, Bool.false_and, eq_self, not_true_eq_false, not_false_eq_true, and_self, and_true, true_and, false_and, and_false, w_dv, dvm, MSH_e hM, sp_233 hM hT, ps_11, ps_o, t1]
theorem sp_236 {d : Nat} {p fl dp x : Int} (hM : MSH K L R) (hf : -1 ≤ fl ∧ fl ≤ 100000) : ev PR (d + 1) 236 [.ref 287, .int (w x)] (((vn, vc, vw, K, L, R), ps I p fl dp, J) : HS) = some (.inl none, (((vn, vc, vw, K, L, R), ps I p (if fl = -1 then x else fl) dp, J) : HS)) := by
  rw [eq_236]
  by_cases c : fl = -1
  · simp (disch := first | assumption | omega | (simp (disch := omega) only [vM_u, vS_u]; first | assumption | omega)) only [hK, hL, hR, hI, hN, sI, hSp, hC, hW, li, lr, ↓cnd_a, ↓cnd_o, ↓cnd_n, ↓cnd_d, ↓z0, ↓z1, ↓z2, y0n, y1i, y2r, y0e, y1e, y2e, wl_0, wl_1, wl_2, wl_3, wl_4, wl_5, wl_6, wl_7, wl_8, wl_9, wl_10, wl_11, wl_12, wl_13, wl_14, wl_15, wl_16, wl_17, wl_18, wl_19, wl_20, wl_21, wl_22, wl_23, wl_24, wl_25, wl_26, wl_27, wl_28, wl_29, wl_30, wl_31, wl_32, wl_33, wl_34, wl_35, wl_36, wl_37, wl_38, wl_39, wl_40, wl_41, wl_42, wl_43, wl_44, wl_45, wl_46, wl_47, wl_48, wl_49, wl_50, wl_51, wl_52, wl_53, wl_54, wl_55, wl_56, wl_57, wl_58, wl_59, wl_60, wl_61, wl_62, wl_63, wl_64, wl_65, wl_66, wl_67, wl_68, wl_69, wl_70, wl_71, wl_72, wl_73, wl_74, wl_75, wl_76, wl_77, wl_78, wl_79, wl_80, wl_81, wl_82, wl_83, wl_84, wl_85, wl_86, wl_87, wl_88, wl_89, wl_90, wl_91, wl_92, wl_93, wl_94, wl_95, wl_96, wl_97, wl_98, wl_99, wl_100, wl_101, wl_102, wl_103, wl_104, wl_105, wl_106, wl_107, wl_108, wl_109, wl_110, wl_111, wl_112, wl_113, wl_114, wl_115, wl_116, wl_117, wl_118, wl_119, wl_120, wl_121, wl_122, wl_123, wl_124, wl_125, wl_126, wl_127, wl_128, wl_129, wl_130, wl_159, wl_160, wl_200, wl_232, wl_255, wl_256, wl_300, wl_359, wl_360, wl_400, wl_592, wl_992, wl_999, wl_1000, wl_1024, wl_3456, wl_6512, wl_7104, wl_10000, wl_11264, wl_12345, wl_32767, wl_1000000000, wl_1103515245, wl_2000000000, w_add, w_sub, w_mul, w_neg, w_lt, w_le, w_eq, w_cl, w_in, w_nat, w_max2, w_min2, w_abs2, iltT, iltF, ileT, ileF, ieqT, ieqF, bv_01, bft, bv_0, bv_1, bv_t, bv_f, cond_true, cond_false, Bool.not_true, Bool.not_false, if_true, if_false, true_or, or_true, true_and, and_true, ↓reduceIte, decide_true, decide_false, reduceCtorEq, u2_s, u2_o, u2_k, u2_u2, Bool.true_or, Bool.or_true, Bool.false_or, Bool.or_false, Bool.and_true, Bool.true_and, Bool.and_false, Bool.false_and, eq_self, not_true_eq_false, not_false_eq_true, and_self, and_true, true_and, false_and, and_false, w_dv, dvm, MSH_e hM, ps_12, ps_w12, c]
  · simp (disch := first | assumption | omega | (simp (disch := omega) only [vM_u, vS_u]; first | assumption | omega)) only [hK, hL, hR, hI, hN, sI, hSp, hC, hW, li, lr, ↓cnd_a, ↓cnd_o, ↓cnd_n, ↓cnd_d, ↓z0, ↓z1, ↓z2, y0n, y1i, y2r, y0e, y1e, y2e, wl_0, wl_1, wl_2, wl_3, wl_4, wl_5, wl_6, wl_7, wl_8, wl_9, wl_10, wl_11, wl_12, wl_13, wl_14, wl_15, wl_16, wl_17, wl_18, wl_19, wl_20, wl_21, wl_22, wl_23, wl_24, wl_25, wl_26, wl_27, wl_28, wl_29, wl_30, wl_31, wl_32, wl_33, wl_34, wl_35, wl_36, wl_37, wl_38, wl_39, wl_40, wl_41, wl_42, wl_43, wl_44, wl_45, wl_46, wl_47, wl_48, wl_49, wl_50, wl_51, wl_52, wl_53, wl_54, wl_55, wl_56, wl_57, wl_58, wl_59, wl_60, wl_61, wl_62, wl_63, wl_64, wl_65, wl_66, wl_67, wl_68, wl_69, wl_70, wl_71, wl_72, wl_73, wl_74, wl_75, wl_76, wl_77, wl_78, wl_79, wl_80, wl_81, wl_82, wl_83, wl_84, wl_85, wl_86, wl_87, wl_88, wl_89, wl_90, wl_91, wl_92, wl_93, wl_94, wl_95, wl_96, wl_97, wl_98, wl_99, wl_100, wl_101, wl_102, wl_103, wl_104, wl_105, wl_106, wl_107, wl_108, wl_109, wl_110, wl_111, wl_112, wl_113, wl_114, wl_115, wl_116, wl_117, wl_118, wl_119, wl_120, wl_121, wl_122, wl_123, wl_124, wl_125, wl_126, wl_127, wl_128, wl_129, wl_130, wl_159, wl_160, wl_200, wl_232, wl_255, wl_256, wl_300, wl_359, wl_360, wl_400, wl_592, wl_992, wl_999, wl_1000, wl_1024, wl_3456, wl_6512, wl_7104, wl_10000, wl_11264, wl_12345, wl_32767, wl_1000000000, wl_1103515245, wl_2000000000, w_add, w_sub, w_mul, w_neg, w_lt, w_le, w_eq, w_cl, w_in, w_nat, w_max2, w_min2, w_abs2, iltT, iltF, ileT, ileF, ieqT, ieqF, bv_01, bft, bv_0, bv_1, bv_t, bv_f, cond_true, cond_false, Bool.not_true, Bool.not_false, if_true, if_false, true_or, or_true, true_and, and_true, ↓reduceIte, decide_true, decide_false, reduceCtorEq, u2_s, u2_o, u2_k, u2_u2, Bool.true_or, Bool.or_true, Bool.false_or, Bool.or_false, Bool.and_true, Bool.true_and, Bool.and_false, Bool.false_and, eq_self, not_true_eq_false, not_false_eq_true, and_self, and_true, true_and, false_and, and_false, w_dv, dvm, MSH_e hM, ps_12, c]
theorem sp_235 {d r : Nat} {T : Int → Int} {e p fl dp : Int} {ws : List Int} (hM : MSH K L R) (hT : TxR I T e) (hp : 0 ≤ p ∧ p ≤ e) (hw : SWd K L I r ws) (hr : r < 287) (hn : ws.length ≤ 10) (hb : ∀ c ∈ ws, 0 ≤ c ∧ c ≤ 255) : ev PR (d + 3) 235 [.ref 287, .ref r] (((vn, vc, vw, K, L, R), ps I p fl dp, J) : HS) = some (.inl (some (.int (bv (hasB T e (sk T e p) ws)))), (((vn, vc, vw, K, L, R), ps I (cond (hasB T e (sk T e p) ws) (lw T e (sk T e p)) (sk T e p)) fl dp, J) : HS)) := by
  have t1 := hT.1
  have t2 := hT.2.1
  have hs := sk_r T e p
  obtain ⟨w1, w2, w3⟩ := hw
  have hl := lw_r T e (sk T e p)
  -- the letters' end
  have lp1 : ∀ (n : Nat) (k : Int), sk T e p ≤ k → k ≤ e → (e - k).toNat = n → atv PR (d + 2) cd_235 5 [.ref 287, .ref r, .int (w k), .retAddr 0] [] (((vn, vc, vw, K, L, R), ps I (sk T e p) fl dp, J) : HS) = if lwN T k n - sk T e p = ws.length then atv PR (d + 2) cd_235 29 [.ref 287, .ref r, .int (w (lwN T k n)), .int (w 0)] [] (((vn, vc, vw, K, L, R), ps I (sk T e p) fl dp, J) : HS) else some (.inl (some (.int (w 0))), (((vn, vc, vw, K, L, R), ps I (sk T e p) fl dp, J) : HS)) := by
    intro n
    induction n with
    | zero =>
      intro k hk hk2 he
      rw [eq_235_5]
      unfold lwN
      simp (disch := first | assumption | omega | (simp (disch := omega) only [vM_u, vS_u]; first | assumption | omega)) only [hK, hL, hR, hI, hN, sI, hSp, hC, hW, li, lr, ↓cnd_a, ↓cnd_o, ↓cnd_n, ↓cnd_d, ↓z0, ↓z1, ↓z2, y0n, y1i, y2r, y0e, y1e, y2e, wl_0, wl_1, wl_2, wl_3, wl_4, wl_5, wl_6, wl_7, wl_8, wl_9, wl_10, wl_11, wl_12, wl_13, wl_14, wl_15, wl_16, wl_17, wl_18, wl_19, wl_20, wl_21, wl_22, wl_23, wl_24, wl_25, wl_26, wl_27, wl_28, wl_29, wl_30, wl_31, wl_32, wl_33, wl_34, wl_35, wl_36, wl_37, wl_38, wl_39, wl_40, wl_41, wl_42, wl_43, wl_44, wl_45, wl_46, wl_47, wl_48, wl_49, wl_50, wl_51, wl_52, wl_53, wl_54, wl_55, wl_56, wl_57, wl_58, wl_59, wl_60, wl_61, wl_62, wl_63, wl_64, wl_65, wl_66, wl_67, wl_68, wl_69, wl_70, wl_71, wl_72, wl_73, wl_74, wl_75, wl_76, wl_77, wl_78, wl_79, wl_80, wl_81, wl_82, wl_83, wl_84, wl_85, wl_86, wl_87, wl_88, wl_89, wl_90, wl_91, wl_92, wl_93, wl_94, wl_95, wl_96, wl_97, wl_98, wl_99, wl_100, wl_101, wl_102, wl_103, wl_104, wl_105, wl_106, wl_107, wl_108, wl_109, wl_110, wl_111, wl_112, wl_113, wl_114, wl_115, wl_116, wl_117, wl_118, wl_119, wl_120, wl_121, wl_122, wl_123, wl_124, wl_125, wl_126, wl_127, wl_128, wl_129, wl_130, wl_159, wl_160, wl_200, wl_232, wl_255, wl_256, wl_300, wl_359, wl_360, wl_400, wl_592, wl_992, wl_999, wl_1000, wl_1024, wl_3456, wl_6512, wl_7104, wl_10000, wl_11264, wl_12345, wl_32767, wl_1000000000, wl_1103515245, wl_2000000000, w_add, w_sub, w_mul, w_neg, w_lt, w_le, w_eq, w_cl, w_in, w_nat, w_max2, w_min2, w_abs2, iltT, iltF, ileT, ileF, ieqT, ieqF, bv_01, bft, bv_0, bv_1, bv_t, bv_f, cond_true, cond_false, Bool.not_true, Bool.not_false, if_true, if_false, true_or, or_true, true_and, and_true, ↓reduceIte, decide_true, decide_false, reduceCtorEq, u2_s, u2_o, u2_k, u2_u2, Bool.true_or, Bool.or_true, Bool.false_or, Bool.or_false, Bool.and_true, Bool.true_and, Bool.and_false, Bool.false_and, eq_self, not_true_eq_false, not_false_eq_true, and_self, and_true, true_and, false_and, and_false, w_dv, dvm, MSH_e hM, ps_11, ps_o, t1, w1, w2]
    | succ n ih =>
      intro k hk hk2 he
      have hc := hT.2.2.1 k (by omega) (by omega)
      rw [eq_235_5]
      unfold lwN
      by_cases c : 97 ≤ T k ∧ T k ≤ 122
      · simp (disch := first | assumption | omega | (simp (disch := omega) only [vM_u, vS_u]; first | assumption | omega)) only [hK, hL, hR, hI, hN, sI, hSp, hC, hW, li, lr, ↓cnd_a, ↓cnd_o, ↓cnd_n, ↓cnd_d, ↓z0, ↓z1, ↓z2, y0n, y1i, y2r, y0e, y1e, y2e, wl_0, wl_1, wl_2, wl_3, wl_4, wl_5, wl_6, wl_7, wl_8, wl_9, wl_10, wl_11, wl_12, wl_13, wl_14, wl_15, wl_16, wl_17, wl_18, wl_19, wl_20, wl_21, wl_22, wl_23, wl_24, wl_25, wl_26, wl_27, wl_28, wl_29, wl_30, wl_31, wl_32, wl_33, wl_34, wl_35, wl_36, wl_37, wl_38, wl_39, wl_40, wl_41, wl_42, wl_43, wl_44, wl_45, wl_46, wl_47, wl_48, wl_49, wl_50, wl_51, wl_52, wl_53, wl_54, wl_55, wl_56, wl_57, wl_58, wl_59, wl_60, wl_61, wl_62, wl_63, wl_64, wl_65, wl_66, wl_67, wl_68, wl_69, wl_70, wl_71, wl_72, wl_73, wl_74, wl_75, wl_76, wl_77, wl_78, wl_79, wl_80, wl_81, wl_82, wl_83, wl_84, wl_85, wl_86, wl_87, wl_88, wl_89, wl_90, wl_91, wl_92, wl_93, wl_94, wl_95, wl_96, wl_97, wl_98, wl_99, wl_100, wl_101, wl_102, wl_103, wl_104, wl_105, wl_106, wl_107, wl_108, wl_109, wl_110, wl_111, wl_112, wl_113, wl_114, wl_115, wl_116, wl_117, wl_118, wl_119, wl_120, wl_121, wl_122, wl_123, wl_124, wl_125, wl_126, wl_127, wl_128, wl_129, wl_130, wl_159, wl_160, wl_200, wl_232, wl_255, wl_256, wl_300, wl_359, wl_360, wl_400, wl_592, wl_992, wl_999, wl_1000, wl_1024, wl_3456, wl_6512, wl_7104, wl_10000, wl_11264, wl_12345, wl_32767, wl_1000000000, wl_1103515245, wl_2000000000, w_add, w_sub, w_mul, w_neg, w_lt, w_le, w_eq, w_cl, w_in, w_nat, w_max2, w_min2, w_abs2, iltT, iltF, ileT, ileF, ieqT, ieqF, bv_01, bft, bv_0, bv_1, bv_t, bv_f, cond_true, cond_false, Bool.not_true, Bool.not_false, if_true, if_false, true_or, or_true, true_and, and_true, ↓reduceIte, decide_true, decide_false, reduceCtorEq, u2_s, u2_o, u2_k, u2_u2, Bool.true_or, Bool.or_true, Bool.false_or, Bool.or_false, Bool.and_true, Bool.true_and, Bool.and_false, Bool.false_and, eq_self, not_true_eq_false, not_false_eq_true, and_self, and_true, true_and, false_and, and_false, w_dv, dvm, MSH_e hM, ps_11, ps_o, t1, sp_232 hM hT, m_218t, c]
        exact ih (k + 1) (by omega) (by omega) (by omega)
      · have h0 : k - sk T e p = k - sk T e p := rfl
        simp (disch := first | assumption | omega | (simp (disch := omega) only [vM_u, vS_u]; first | assumption | omega)) only [hK, hL, hR, hI, hN, sI, hSp, hC, hW, li, lr, ↓cnd_a, ↓cnd_o, ↓cnd_n, ↓cnd_d, ↓z0, ↓z1, ↓z2, y0n, y1i, y2r, y0e, y1e, y2e, wl_0, wl_1, wl_2, wl_3, wl_4, wl_5, wl_6, wl_7, wl_8, wl_9, wl_10, wl_11, wl_12, wl_13, wl_14, wl_15, wl_16, wl_17, wl_18, wl_19, wl_20, wl_21, wl_22, wl_23, wl_24, wl_25, wl_26, wl_27, wl_28, wl_29, wl_30, wl_31, wl_32, wl_33, wl_34, wl_35, wl_36, wl_37, wl_38, wl_39, wl_40, wl_41, wl_42, wl_43, wl_44, wl_45, wl_46, wl_47, wl_48, wl_49, wl_50, wl_51, wl_52, wl_53, wl_54, wl_55, wl_56, wl_57, wl_58, wl_59, wl_60, wl_61, wl_62, wl_63, wl_64, wl_65, wl_66, wl_67, wl_68, wl_69, wl_70, wl_71, wl_72, wl_73, wl_74, wl_75, wl_76, wl_77, wl_78, wl_79, wl_80, wl_81, wl_82, wl_83, wl_84, wl_85, wl_86, wl_87, wl_88, wl_89, wl_90, wl_91, wl_92, wl_93, wl_94, wl_95, wl_96, wl_97, wl_98, wl_99, wl_100, wl_101, wl_102, wl_103, wl_104, wl_105, wl_106, wl_107, wl_108, wl_109, wl_110, wl_111, wl_112, wl_113, wl_114, wl_115, wl_116, wl_117, wl_118, wl_119, wl_120, wl_121, wl_122, wl_123, wl_124, wl_125, wl_126, wl_127, wl_128, wl_129, wl_130, wl_159, wl_160, wl_200, wl_232, wl_255, wl_256, wl_300, wl_359, wl_360, wl_400, wl_592, wl_992, wl_999, wl_1000, wl_1024, wl_3456, wl_6512, wl_7104, wl_10000, wl_11264, wl_12345, wl_32767, wl_1000000000, wl_1103515245, wl_2000000000, w_add, w_sub, w_mul, w_neg, w_lt, w_le, w_eq, w_cl, w_in, w_nat, w_max2, w_min2, w_abs2, iltT, iltF, ileT, ileF, ieqT, ieqF, bv_01, bft, bv_0, bv_1, bv_t, bv_f, cond_true, cond_false, Bool.not_true, Bool.not_false, if_true, if_false, true_or, or_true, true_and, and_true, ↓reduceIte, decide_true, decide_false, reduceCtorEq, u2_s, u2_o, u2_k, u2_u2, Bool.true_or, Bool.or_true, Bool.false_or, Bool.or_false, Bool.and_true, Bool.true_and, Bool.and_false, Bool.false_and, eq_self, not_true_eq_false, not_false_eq_true, and_self, and_true, true_and, false_and, and_false, w_dv, dvm, MSH_e hM, ps_11, ps_o, t1, sp_232 hM hT, m_218f, w1, w2]
        rw [if_neg c]
  -- the letters themselves
  have lp2 : ∀ (l : List Int) (k : Int), 0 ≤ k → ws.drop k.toNat = l → k + l.length = ws.length → sk T e p + ws.length ≤ e → atv PR (d + 2) cd_235 29 [.ref 287, .ref r, .int (w (sk T e p + ws.length)), .int (w k)] [] (((vn, vc, vw, K, L, R), ps I (sk T e p) fl dp, J) : HS) = some (.inl (some (.int (bv (eqW T (sk T e p + k) l)))), (((vn, vc, vw, K, L, R), ps I (cond (eqW T (sk T e p + k) l) (sk T e p + ws.length) (sk T e p)) fl dp, J) : HS)) := by
    intro l
    induction l with
    | nil =>
      intro k hk hd he hle
      rw [eq_235_29]
      simp only [List.length_nil] at he
      simp (disch := first | assumption | omega | (simp (disch := omega) only [vM_u, vS_u]; first | assumption | omega)) only [hK, hL, hR, hI, hN, sI, hSp, hC, hW, li, lr, ↓cnd_a, ↓cnd_o, ↓cnd_n, ↓cnd_d, ↓z0, ↓z1, ↓z2, y0n, y1i, y2r, y0e, y1e, y2e, wl_0, wl_1, wl_2, wl_3, wl_4, wl_5, wl_6, wl_7, wl_8, wl_9, wl_10, wl_11, wl_12, wl_13, wl_14, wl_15, wl_16, wl_17, wl_18, wl_19, wl_20, wl_21, wl_22, wl_23, wl_24, wl_25, wl_26, wl_27, wl_28, wl_29, wl_30, wl_31, wl_32, wl_33, wl_34, wl_35, wl_36, wl_37, wl_38, wl_39, wl_40, wl_41, wl_42, wl_43, wl_44, wl_45, wl_46, wl_47, wl_48, wl_49, wl_50, wl_51, wl_52, wl_53, wl_54, wl_55, wl_56, wl_57, wl_58, wl_59, wl_60, wl_61, wl_62, wl_63, wl_64, wl_65, wl_66, wl_67, wl_68, wl_69, wl_70, wl_71, wl_72, wl_73, wl_74, wl_75, wl_76, wl_77, wl_78, wl_79, wl_80, wl_81, wl_82, wl_83, wl_84, wl_85, wl_86, wl_87, wl_88, wl_89, wl_90, wl_91, wl_92, wl_93, wl_94, wl_95, wl_96, wl_97, wl_98, wl_99, wl_100, wl_101, wl_102, wl_103, wl_104, wl_105, wl_106, wl_107, wl_108, wl_109, wl_110, wl_111, wl_112, wl_113, wl_114, wl_115, wl_116, wl_117, wl_118, wl_119, wl_120, wl_121, wl_122, wl_123, wl_124, wl_125, wl_126, wl_127, wl_128, wl_129, wl_130, wl_159, wl_160, wl_200, wl_232, wl_255, wl_256, wl_300, wl_359, wl_360, wl_400, wl_592, wl_992, wl_999, wl_1000, wl_1024, wl_3456, wl_6512, wl_7104, wl_10000, wl_11264, wl_12345, wl_32767, wl_1000000000, wl_1103515245, wl_2000000000, w_add, w_sub, w_mul, w_neg, w_lt, w_le, w_eq, w_cl, w_in, w_nat, w_max2, w_min2, w_abs2, iltT, iltF, ileT, ileF, ieqT, ieqF, bv_01, bft, bv_0, bv_1, bv_t, bv_f, cond_true, cond_false, Bool.not_true, Bool.not_false, if_true, if_false, true_or, or_true, true_and, and_true, ↓reduceIte, decide_true, decide_false, reduceCtorEq, u2_s, u2_o, u2_k, u2_u2, Bool.true_or, Bool.or_true, Bool.false_or, Bool.or_false, Bool.and_true, Bool.true_and, Bool.and_false, Bool.false_and, eq_self, not_true_eq_false, not_false_eq_true, and_self, and_true, true_and, false_and, and_false, w_dv, dvm, MSH_e hM, w1, w2, ps_w11, eqW]
    | cons c l ih =>
      intro k hk hd he hle
      rw [List.length_cons] at he
      have hkl : k.toNat < ws.length := by omega
      have hdd := drop_c (l := ws) hk (by omega)
      rw [hd] at hdd
      injection hdd with hc1 hc2
      have hcr := hb c (by rw [hc1]; exact getD_m hk (by omega))
      have e3 := w3 (ix k) (by unfold ix; omega)
      rw [← hc1] at e3
      have hq := hT.2.2.1 (sk T e p + k) (by omega) (by omega)
      have ih1 := ih (k + 1) (by omega) hc2.symm (by omega) hle
      rw [eq_235_29]
      unfold eqW
      by_cases c2 : T (sk T e p + k) = c
      · simp (disch := first | assumption | omega | (simp (disch := omega) only [vM_u, vS_u]; first | assumption | omega)) only [hK, hL, hR, hI, hN, sI, hSp, hC, hW, li, lr, ↓cnd_a, ↓cnd_o, ↓cnd_n, ↓cnd_d, ↓z0, ↓z1, ↓z2, y0n, y1i, y2r, y0e, y1e, y2e, wl_0, wl_1, wl_2, wl_3, wl_4, wl_5, wl_6, wl_7, wl_8, wl_9, wl_10, wl_11, wl_12, wl_13, wl_14, wl_15, wl_16, wl_17, wl_18, wl_19, wl_20, wl_21, wl_22, wl_23, wl_24, wl_25, wl_26, wl_27, wl_28, wl_29, wl_30, wl_31, wl_32, wl_33, wl_34, wl_35, wl_36, wl_37, wl_38, wl_39, wl_40, wl_41, wl_42, wl_43, wl_44, wl_45, wl_46, wl_47, wl_48, wl_49, wl_50, wl_51, wl_52, wl_53, wl_54, wl_55, wl_56, wl_57, wl_58, wl_59, wl_60, wl_61, wl_62, wl_63, wl_64, wl_65, wl_66, wl_67, wl_68, wl_69, wl_70, wl_71, wl_72, wl_73, wl_74, wl_75, wl_76, wl_77, wl_78, wl_79, wl_80, wl_81, wl_82, wl_83, wl_84, wl_85, wl_86, wl_87, wl_88, wl_89, wl_90, wl_91, wl_92, wl_93, wl_94, wl_95, wl_96, wl_97, wl_98, wl_99, wl_100, wl_101, wl_102, wl_103, wl_104, wl_105, wl_106, wl_107, wl_108, wl_109, wl_110, wl_111, wl_112, wl_113, wl_114, wl_115, wl_116, wl_117, wl_118, wl_119, wl_120, wl_121, wl_122, wl_123, wl_124, wl_125, wl_126, wl_127, wl_128, wl_129, wl_130, wl_159, wl_160, wl_200, wl_232, wl_255, wl_256, wl_300, wl_359, wl_360, wl_400, wl_592, wl_992, wl_999, wl_1000, wl_1024, wl_3456, wl_6512, wl_7104, wl_10000, wl_11264, wl_12345, wl_32767, wl_1000000000, wl_1103515245, wl_2000000000, w_add, w_sub, w_mul, w_neg, w_lt, w_le, w_eq, w_cl, w_in, w_nat, w_max2, w_min2, w_abs2, iltT, iltF, ileT, ileF, ieqT, ieqF, bv_01, bft, bv_0, bv_1, bv_t, bv_f, cond_true, cond_false, Bool.not_true, Bool.not_false, if_true, if_false, true_or, or_true, true_and, and_true, ↓reduceIte, decide_true, decide_false, reduceCtorEq, u2_s, u2_o, u2_k, u2_u2, Bool.true_or, Bool.or_true, Bool.false_or, Bool.or_false, Bool.and_true, Bool.true_and, Bool.and_false, Bool.false_and, eq_self, not_true_eq_false, not_false_eq_true, and_self, and_true, true_and, false_and, and_false, w_dv, dvm, MSH_e hM, w1, w2, ps_11, ps_o, sp_232 hM hT, e3, c2]
        rw [← Int.add_assoc] at ih1
        exact ih1
      · simp (disch := first | assumption | omega | (simp (disch := omega) only [vM_u, vS_u]; first | assumption | omega)) only [hK, hL, hR, hI, hN, sI, hSp, hC, hW, li, lr, ↓cnd_a, ↓cnd_o, ↓cnd_n, ↓cnd_d, ↓z0, ↓z1, ↓z2, y0n, y1i, y2r, y0e, y1e, y2e, wl_0, wl_1, wl_2, wl_3, wl_4, wl_5, wl_6, wl_7, wl_8, wl_9, wl_10, wl_11, wl_12, wl_13, wl_14, wl_15, wl_16, wl_17, wl_18, wl_19, wl_20, wl_21, wl_22, wl_23, wl_24, wl_25, wl_26, wl_27, wl_28, wl_29, wl_30, wl_31, wl_32, wl_33, wl_34, wl_35, wl_36, wl_37, wl_38, wl_39, wl_40, wl_41, wl_42, wl_43, wl_44, wl_45, wl_46, wl_47, wl_48, wl_49, wl_50, wl_51, wl_52, wl_53, wl_54, wl_55, wl_56, wl_57, wl_58, wl_59, wl_60, wl_61, wl_62, wl_63, wl_64, wl_65, wl_66, wl_67, wl_68, wl_69, wl_70, wl_71, wl_72, wl_73, wl_74, wl_75, wl_76, wl_77, wl_78, wl_79, wl_80, wl_81, wl_82, wl_83, wl_84, wl_85, wl_86, wl_87, wl_88, wl_89, wl_90, wl_91, wl_92, wl_93, wl_94, wl_95, wl_96, wl_97, wl_98, wl_99, wl_100, wl_101, wl_102, wl_103, wl_104, wl_105, wl_106, wl_107, wl_108, wl_109, wl_110, wl_111, wl_112, wl_113, wl_114, wl_115, wl_116, wl_117, wl_118, wl_119, wl_120, wl_121, wl_122, wl_123, wl_124, wl_125, wl_126, wl_127, wl_128, wl_129, wl_130, wl_159, wl_160, wl_200, wl_232, wl_255, wl_256, wl_300, wl_359, wl_360, wl_400, wl_592, wl_992, wl_999, wl_1000, wl_1024, wl_3456, wl_6512, wl_7104, wl_10000, wl_11264, wl_12345, wl_32767, wl_1000000000, wl_1103515245, wl_2000000000, w_add, w_sub, w_mul, w_neg, w_lt, w_le, w_eq, w_cl, w_in, w_nat, w_max2, w_min2, w_abs2, iltT, iltF, ileT, ileF, ieqT, ieqF, bv_01, bft, bv_0, bv_1, bv_t, bv_f, cond_true, cond_false, Bool.not_true, Bool.not_false, if_true, if_false, true_or, or_true, true_and, and_true, ↓reduceIte, decide_true, decide_false, reduceCtorEq, u2_s, u2_o, u2_k, u2_u2, Bool.true_or, Bool.or_true, Bool.false_or, Bool.or_false, Bool.and_true, Bool.true_and, Bool.and_false, Bool.false_and, eq_self, not_true_eq_false, not_false_eq_true, and_self, and_true, true_and, false_and, and_false, w_dv, dvm, MSH_e hM, w1, w2, ps_11, ps_o, sp_232 hM hT, e3, c2]
  rw [eq_235]
  simp (disch := first | assumption | omega | (simp (disch := omega) only [vM_u, vS_u]; first | assumption | omega)) only [hK, hL, hR, hI, hN, sI, hSp, hC, hW, li, lr, ↓cnd_a, ↓cnd_o, ↓cnd_n, ↓cnd_d, ↓z0, ↓z1, ↓z2, y0n, y1i, y2r, y0e, y1e, y2e, wl_0, wl_1, wl_2, wl_3, wl_4, wl_5, wl_6, wl_7, wl_8, wl_9, wl_10, wl_11, wl_12, wl_13, wl_14, wl_15, wl_16, wl_17, wl_18, wl_19, wl_20, wl_21, wl_22, wl_23, wl_24, wl_25, wl_26, wl_27, wl_28, wl_29, wl_30, wl_31, wl_32, wl_33, wl_34, wl_35, wl_36, wl_37, wl_38, wl_39, wl_40, wl_41, wl_42, wl_43, wl_44, wl_45, wl_46, wl_47, wl_48, wl_49, wl_50, wl_51, wl_52, wl_53, wl_54, wl_55, wl_56, wl_57, wl_58, wl_59, wl_60, wl_61, wl_62, wl_63, wl_64, wl_65, wl_66, wl_67, wl_68, wl_69, wl_70, wl_71, wl_72, wl_73, wl_74, wl_75, wl_76, wl_77, wl_78, wl_79, wl_80, wl_81, wl_82, wl_83, wl_84, wl_85, wl_86, wl_87, wl_88, wl_89, wl_90, wl_91, wl_92, wl_93, wl_94, wl_95, wl_96, wl_97, wl_98, wl_99, wl_100, wl_101, wl_102, wl_103, wl_104, wl_105, wl_106, wl_107, wl_108, wl_109, wl_110, wl_111, wl_112, wl_113, wl_114, wl_115, wl_116, wl_117, wl_118, wl_119, wl_120, wl_121, wl_122, wl_123, wl_124, wl_125, wl_126, wl_127, wl_128, wl_129, wl_130, wl_159, wl_160, wl_200, wl_232, wl_255, wl_256, wl_300, wl_359, wl_360, wl_400, wl_592, wl_992, wl_999, wl_1000, wl_1024, wl_3456, wl_6512, wl_7104, wl_10000, wl_11264, wl_12345, wl_32767, wl_1000000000, wl_1103515245, wl_2000000000, w_add, w_sub, w_mul, w_neg, w_lt, w_le, w_eq, w_cl, w_in, w_nat, w_max2, w_min2, w_abs2, iltT, iltF, ileT, ileF, ieqT, ieqF, bv_01, bft, bv_0, bv_1, bv_t, bv_f, cond_true, cond_false, Bool.not_true, Bool.not_false, if_true, if_false, true_or, or_true, true_and, and_true, ↓reduceIte, decide_true, decide_false, reduceCtorEq, u2_s, u2_o, u2_k, u2_u2, Bool.true_or, Bool.or_true, Bool.false_or, Bool.or_false, Bool.and_true, Bool.true_and, Bool.and_false, Bool.false_and, eq_self, not_true_eq_false, not_false_eq_true, and_self, and_true, true_and, false_and, and_false, w_dv, dvm, MSH_e hM, sp_233 hM hT, ps_11]
  rw [lp1 _ (sk T e p) (Int.le_refl _) (by omega) rfl]
  unfold hasB
  have hlw : lwN T (sk T e p) (e - sk T e p).toNat = lw T e (sk T e p) := rfl
  rw [hlw]
  by_cases c : lw T e (sk T e p) - sk T e p = ws.length
  · rw [if_pos c, decide_eq_true c, Bool.true_and, show lw T e (sk T e p) = sk T e p + ws.length by omega, lp2 ws 0 (by omega) rfl (by omega) (by omega), Int.add_zero]
  · rw [if_neg c, decide_eq_false c]
    rfl
end PRS
