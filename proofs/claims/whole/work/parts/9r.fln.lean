/-! the reference reads one line of a fair -/
section FLN
variable {vn vc vw : Nat} {K L : Nat → Nat} {R : Nat → Nat → Nat} {I : Nat → Nat → Int32} {J : Nat → Nat → Int64}
theorem ps_288 (I : Nat → Nat → Int32) (p fl dp : Int) (k : Nat) (v : Int32) : u2 (ps I p fl dp) 288 k v = ps (u2 I 288 k v) p fl dp := by
  funext a b
  simp only [u2_r, ps_x]
  by_cases h : a = 288 ∧ b = k
  · rw [if_pos h, if_neg (by omega), if_neg (by omega), if_neg (by omega), if_pos h]
  · rw [if_neg h, if_neg h]
theorem rowB_ps (I : Nat → Nat → Int32) (p fl dp n : Int) (r : BkR) : rowB (ps I p fl dp) n r = ps (rowB I n r) p fl dp := by
  unfold rowB
  simp only [ps_288]
theorem rowH_ps (I : Nat → Nat → Int32) (p fl dp n : Int) (r : HpR) : rowH (ps I p fl dp) n r = ps (rowH I n r) p fl dp := by
  unfold rowH
  simp only [ps_288]
theorem rowP_ps (I : Nat → Nat → Int32) (p fl dp n v : Int) : rowP (ps I p fl dp) n v = ps (rowP I n v) p fl dp := by
  unfold rowP
  simp only [ps_288]
def pSet (T : Int → Int) (e : Int) (I : Nat → Nat → Int32) (z hi p : Int) : Except Int (Int × (Nat → Nat → Int32)) :=
  match pFig T e 0 hi p with
  | .error f => .error f
  | .ok r => .ok (r.1, u2 I 288 (ix z) (w r.2))
/-- one line of a fair, on the reference's memory -/
def pFl (T : Int → Int) (e nb nh np : Int) (I : Nat → Nat → Int32) (p : Int) : Except Int (Int × (Nat → Nat → Int32)) :=
  let q := sk T e p
  if hasB T e q W_block then (if nb = 10 then .error q else match pBlk T e (lw T e q) with | .error f => .error f | .ok r => .ok (r.1, rowB I nb r))
  else if hasB T e q W_hoop then (if nh = 8 then .error q else match pHop T e (lw T e q) with | .error f => .error f | .ok r => .ok (r.1, rowH I nh r))
  else if hasB T e q W_person then (if np = 6 then .error q else match pFig T e 0 99 (lw T e q) with | .error f => .error f | .ok r => .ok (r.1, rowP I np r.2))
  else if hasB T e q W_price then pSet T e I 6 99 (lw T e q)
  else if hasB T e q W_bounce then pSet T e I 7 3 (lw T e q)
  else if hasB T e q W_knock then pSet T e I 8 9 (lw T e q)
  else if hasB T e q W_counts then pSet T e I 9 1 (lw T e q)
  else .error q
def GoF (σ : (Nat → Nat → Int32) → Int → Int → Int → HS) (I : Nat → Nat → Int32) (e p : Int) (res : Option Res) (r : Except Int (Int × (Nat → Nat → Int32))) : Prop :=
  match r with
  | .ok t => res = some (.inl none, σ t.2 t.1 (-1) 0) ∧ p < t.1 ∧ t.1 ≤ e
  | .error f => ∃ a, res = some (.inl none, σ I a f 0) ∧ (0 ≤ f ∧ f ≤ 400) ∧ 0 ≤ a ∧ a ≤ 400
theorem sp_244 {d : Nat} {T : Int → Int} {e p nb nh np : Int} (hM : MSH K L R) (hT : TxR I T e) (hA : SWA K L I) (hp : 0 ≤ p ∧ p ≤ e) (h3 : I 288 (ix 3) = w nb) (h4 : I 288 (ix 4) = w nh) (h5 : I 288 (ix 5) = w np) (hb : (0 ≤ nb ∧ nb ≤ 10) ∧ (0 ≤ nh ∧ nh ≤ 8) ∧ 0 ≤ np ∧ np ≤ 6) : GoF (fun I' a f b => (((vn, vc, vw, K, L, R), ps I' a f b, J) : HS)) I e p (ev PR (d + 7) 244 [.ref 287] (((vn, vc, vw, K, L, R), ps I p (-1) 0, J) : HS)) (pFl T e nb nh np I p) := by
  have t2 := hT.2.1
  have hq := sk_0 (T := T) hp
  have hsr := sk_r T e p
  have hss := sk_sk T e p
  unfold pFl
  dsimp only
  have tell : ∀ (z hi : Int) (ws : List Int), ws ≠ [] → hasB T e (sk T e p) ws = true → (6 ≤ z ∧ z ≤ 9) → (0 ≤ hi ∧ hi ≤ 99) → (∀ σ', ev PR (d + 6) 243 [.ref 287, .int (w z), .int (w hi)] (((vn, vc, vw, K, L, R), ps I (lw T e (sk T e p)) (-1) 0, J) : HS) = some (.inl none, σ') → ev PR (d + 7) 244 [.ref 287] (((vn, vc, vw, K, L, R), ps I p (-1) 0, J) : HS) = some (.inl none, σ')) → GoF (fun I' a f b => (((vn, vc, vw, K, L, R), ps I' a f b, J) : HS)) I e p (ev PR (d + 7) 244 [.ref 287] (((vn, vc, vw, K, L, R), ps I p (-1) 0, J) : HS)) (pSet T e I z hi (lw T e (sk T e p))) := by
    intro z hi ws hne hw hz hh go
    have hl := has_lt hw hne
    have g := sp_243 (d := d + 1) (p := lw T e (sk T e p)) (hi := hi) (z := z) (vn := vn) (vc := vc) (vw := vw) (J := J) hM hT (by omega) hh hz
    unfold pSet
    cases h : pFig T e 0 hi (lw T e (sk T e p)) with
    | error f =>
      obtain ⟨a, k1, k2, k3⟩ := g.1 f h
      exact ⟨a, go _ k1, k2, k3⟩
    | ok r =>
      obtain ⟨k1, k2, k3⟩ := g.2 r h
      rw [ps_288] at k1
      exact ⟨go _ k1, by dsimp only; omega, by dsimp only; omega⟩
  cases b0 : hasB T e (sk T e p) W_block with
  | true =>
    have hl := has_lt b0 (by decide)
    have g := sp_240 (d := d) (p := lw T e (sk T e p)) (q := sk T e p) (vn := vn) (vc := vc) (vw := vw) (J := J) hM hT hA (by omega) (by omega) h3 hb.1
    have go : ∀ σ', ev PR (d + 6) 240 [.ref 287, .int (w (sk T e p))] (((vn, vc, vw, K, L, R), ps I (lw T e (sk T e p)) (-1) 0, J) : HS) = some (.inl none, σ') → ev PR (d + 7) 244 [.ref 287] (((vn, vc, vw, K, L, R), ps I p (-1) 0, J) : HS) = some (.inl none, σ') := by
      intro σ' h
      rw [eq_244]
      simp (disch := first | assumption | omega | (simp (disch := omega) only [vM_u, vS_u]; first | assumption | omega)) only [hK, hL, hR, hI, hN, sI, hSp, hC, hW, li, lr, ↓cnd_a, ↓cnd_o, ↓cnd_n, ↓cnd_d, ↓z0, ↓z1, ↓z2, y0n, y1i, y2r, y0e, y1e, y2e, wl_0, wl_1, wl_2, wl_3, wl_4, wl_5, wl_6, wl_7, wl_8, wl_9, wl_10, wl_11, wl_12, wl_13, wl_14, wl_15, wl_16, wl_17, wl_18, wl_19, wl_20, wl_21, wl_22, wl_23, wl_24, wl_25, wl_26, wl_27, wl_28, wl_29, wl_30, wl_31, wl_32, wl_33, wl_34, wl_35, wl_36, wl_37, wl_38, wl_39, wl_40, wl_41, wl_42, wl_43, wl_44, wl_45, wl_46, wl_47, wl_48, wl_49, wl_50, wl_51, wl_52, wl_53, wl_54, wl_55, wl_56, wl_57, wl_58, wl_59, wl_60, wl_61, wl_62, wl_63, wl_64, wl_65, wl_66, wl_67, wl_68, wl_69, wl_70, wl_71, wl_72, wl_73, wl_74, wl_75, wl_76, wl_77, wl_78, wl_79, wl_80, wl_81, wl_82, wl_83, wl_84, wl_85, wl_86, wl_87, wl_88, wl_89, wl_90, wl_91, wl_92, wl_93, wl_94, wl_95, wl_96, wl_97, wl_98, wl_99, wl_100, wl_101, wl_102, wl_103, wl_104, wl_105, wl_106, wl_107, wl_108, wl_109, wl_110, wl_111, wl_112, wl_113, wl_114, wl_115, wl_116, wl_117, wl_118, wl_119, wl_120, wl_121, wl_122, wl_123, wl_124, wl_125, wl_126, wl_127, wl_128, wl_129, wl_130, wl_159, wl_160, wl_200, wl_232, wl_255, wl_256, wl_300, wl_359, wl_360, wl_400, wl_592, wl_992, wl_999, wl_1000, wl_1024, wl_3456, wl_6512, wl_7104, wl_10000, wl_11264, wl_12345, wl_32767, wl_1000000000, wl_1103515245, wl_2000000000, w_add, w_sub, w_mul, w_neg, w_lt, w_le, w_eq, w_cl, w_in, w_nat, w_max2, w_min2, w_abs2, iltT, iltF, ileT, ileF, ieqT, ieqF, bv_01, bft, bv_0, bv_1, bv_t, bv_f, cond_true, cond_false, Bool.not_true, Bool.not_false, if_true, if_false, true_or, or_true, true_and, and_true, ↓reduceIte, decide_true, decide_false, reduceCtorEq, u2_s, u2_o, u2_k, u2_u2, Bool.true_or, Bool.or_true, Bool.false_or, Bool.or_false, Bool.and_true, Bool.true_and, Bool.and_false, Bool.false_and, eq_self, not_true_eq_false, not_false_eq_true, and_self, and_true, true_and, false_and, and_false, w_dv, dvm, MSH_e hM, sp_238 hM hT, sp_w68 hM hT hA, hss, b0, h]
    simp only [if_true]
    by_cases c : nb = 10
    · rw [if_pos c]
      exact ⟨_, go _ (g.1 c), by omega, by omega⟩
    · rw [if_neg c]
      cases h : pBlk T e (lw T e (sk T e p)) with
      | error f =>
        obtain ⟨a, k1, k2, k3⟩ := g.2.1 c f h
        exact ⟨a, go _ k1, k2, k3⟩
      | ok r =>
        obtain ⟨k1, k2, _⟩ := g.2.2 c r h
        rw [rowB_ps] at k1
        exact ⟨go _ k1, by dsimp only; omega, by dsimp only; omega⟩
  | false =>
  simp only [if_false, Bool.false_eq_true]
  cases b1 : hasB T e (sk T e p) W_hoop with
  | true =>
    have hl := has_lt b1 (by decide)
    have g := sp_241 (d := d) (p := lw T e (sk T e p)) (q := sk T e p) (vn := vn) (vc := vc) (vw := vw) (J := J) hM hT hA (by omega) (by omega) h4 hb.2.1
    have go : ∀ σ', ev PR (d + 6) 241 [.ref 287, .int (w (sk T e p))] (((vn, vc, vw, K, L, R), ps I (lw T e (sk T e p)) (-1) 0, J) : HS) = some (.inl none, σ') → ev PR (d + 7) 244 [.ref 287] (((vn, vc, vw, K, L, R), ps I p (-1) 0, J) : HS) = some (.inl none, σ') := by
      intro σ' h
      rw [eq_244]
      simp (disch := first | assumption | omega | (simp (disch := omega) only [vM_u, vS_u]; first | assumption | omega)) only [hK, hL, hR, hI, hN, sI, hSp, hC, hW, li, lr, ↓cnd_a, ↓cnd_o, ↓cnd_n, ↓cnd_d, ↓z0, ↓z1, ↓z2, y0n, y1i, y2r, y0e, y1e, y2e, wl_0, wl_1, wl_2, wl_3, wl_4, wl_5, wl_6, wl_7, wl_8, wl_9, wl_10, wl_11, wl_12, wl_13, wl_14, wl_15, wl_16, wl_17, wl_18, wl_19, wl_20, wl_21, wl_22, wl_23, wl_24, wl_25, wl_26, wl_27, wl_28, wl_29, wl_30, wl_31, wl_32, wl_33, wl_34, wl_35, wl_36, wl_37, wl_38, wl_39, wl_40, wl_41, wl_42, wl_43, wl_44, wl_45, wl_46, wl_47, wl_48, wl_49, wl_50, wl_51, wl_52, wl_53, wl_54, wl_55, wl_56, wl_57, wl_58, wl_59, wl_60, wl_61, wl_62, wl_63, wl_64, wl_65, wl_66, wl_67, wl_68, wl_69, wl_70, wl_71, wl_72, wl_73, wl_74, wl_75, wl_76, wl_77, wl_78, wl_79, wl_80, wl_81, wl_82, wl_83, wl_84, wl_85, wl_86, wl_87, wl_88, wl_89, wl_90, wl_91, wl_92, wl_93, wl_94, wl_95, wl_96, wl_97, wl_98, wl_99, wl_100, wl_101, wl_102, wl_103, wl_104, wl_105, wl_106, wl_107, wl_108, wl_109, wl_110, wl_111, wl_112, wl_113, wl_114, wl_115, wl_116, wl_117, wl_118, wl_119, wl_120, wl_121, wl_122, wl_123, wl_124, wl_125, wl_126, wl_127, wl_128, wl_129, wl_130, wl_159, wl_160, wl_200, wl_232, wl_255, wl_256, wl_300, wl_359, wl_360, wl_400, wl_592, wl_992, wl_999, wl_1000, wl_1024, wl_3456, wl_6512, wl_7104, wl_10000, wl_11264, wl_12345, wl_32767, wl_1000000000, wl_1103515245, wl_2000000000, w_add, w_sub, w_mul, w_neg, w_lt, w_le, w_eq, w_cl, w_in, w_nat, w_max2, w_min2, w_abs2, iltT, iltF, ileT, ileF, ieqT, ieqF, bv_01, bft, bv_0, bv_1, bv_t, bv_f, cond_true, cond_false, Bool.not_true, Bool.not_false, if_true, if_false, true_or, or_true, true_and, and_true, ↓reduceIte, decide_true, decide_false, reduceCtorEq, u2_s, u2_o, u2_k, u2_u2, Bool.true_or, Bool.or_true, Bool.false_or, Bool.or_false, Bool.and_true, Bool.true_and, Bool.and_false, Bool.false_and, eq_self, not_true_eq_false, not_false_eq_true, and_self, and_true, true_and, false_and, and_false, w_dv, dvm, MSH_e hM, sp_238 hM hT, sp_w68 hM hT hA, sp_w60 hM hT hA, hss, b0, b1, h]
    simp only [if_true]
    by_cases c : nh = 8
    · rw [if_pos c]
      exact ⟨_, go _ (g.1 c), by omega, by omega⟩
    · rw [if_neg c]
      cases h : pHop T e (lw T e (sk T e p)) with
      | error f =>
        obtain ⟨a, k1, k2, k3⟩ := g.2.1 c f h
        exact ⟨a, go _ k1, k2, k3⟩
      | ok r =>
        obtain ⟨k1, k2, _⟩ := g.2.2 c r h
        rw [rowH_ps] at k1
        exact ⟨go _ k1, by dsimp only; omega, by dsimp only; omega⟩
  | false =>
  simp only [if_false, Bool.false_eq_true]
  cases b2 : hasB T e (sk T e p) W_person with
  | true =>
    have hl := has_lt b2 (by decide)
    have g := sp_242 (d := d + 1) (p := lw T e (sk T e p)) (q := sk T e p) (vn := vn) (vc := vc) (vw := vw) (J := J) hM hT (by omega) (by omega) h5 hb.2.2
    have go : ∀ σ', ev PR (d + 6) 242 [.ref 287, .int (w (sk T e p))] (((vn, vc, vw, K, L, R), ps I (lw T e (sk T e p)) (-1) 0, J) : HS) = some (.inl none, σ') → ev PR (d + 7) 244 [.ref 287] (((vn, vc, vw, K, L, R), ps I p (-1) 0, J) : HS) = some (.inl none, σ') := by
      intro σ' h
      rw [eq_244]
      simp (disch := first | assumption | omega | (simp (disch := omega) only [vM_u, vS_u]; first | assumption | omega)) only [hK, hL, hR, hI, hN, sI, hSp, hC, hW, li, lr, ↓cnd_a, ↓cnd_o, ↓cnd_n, ↓cnd_d, ↓z0, ↓z1, ↓z2, y0n, y1i, y2r, y0e, y1e, y2e, wl_0, wl_1, wl_2, wl_3, wl_4, wl_5, wl_6, wl_7, wl_8, wl_9, wl_10, wl_11, wl_12, wl_13, wl_14, wl_15, wl_16, wl_17, wl_18, wl_19, wl_20, wl_21, wl_22, wl_23, wl_24, wl_25, wl_26, wl_27, wl_28, wl_29, wl_30, wl_31, wl_32, wl_33, wl_34, wl_35, wl_36, wl_37, wl_38, wl_39, wl_40, wl_41, wl_42, wl_43, wl_44, wl_45, wl_46, wl_47, wl_48, wl_49, wl_50, wl_51, wl_52, wl_53, wl_54, wl_55, wl_56, wl_57, wl_58, wl_59, wl_60, wl_61, wl_62, wl_63, wl_64, wl_65, wl_66, wl_67, wl_68, wl_69, wl_70, wl_71, wl_72, wl_73, wl_74, wl_75, wl_76, wl_77, wl_78, wl_79, wl_80, wl_81, wl_82, wl_83, wl_84, wl_85, wl_86, wl_87, wl_88, wl_89, wl_90, wl_91, wl_92, wl_93, wl_94, wl_95, wl_96, wl_97, wl_98, wl_99, wl_100, wl_101, wl_102, wl_103, wl_104, wl_105, wl_106, wl_107, wl_108, wl_109, wl_110, wl_111, wl_112, wl_113, wl_114, wl_115, wl_116, wl_117, wl_118, wl_119, wl_120, wl_121, wl_122, wl_123, wl_124, wl_125, wl_126, wl_127, wl_128, wl_129, wl_130, wl_159, wl_160, wl_200, wl_232, wl_255, wl_256, wl_300, wl_359, wl_360, wl_400, wl_592, wl_992, wl_999, wl_1000, wl_1024, wl_3456, wl_6512, wl_7104, wl_10000, wl_11264, wl_12345, wl_32767, wl_1000000000, wl_1103515245, wl_2000000000, w_add, w_sub, w_mul, w_neg, w_lt, w_le, w_eq, w_cl, w_in, w_nat, w_max2, w_min2, w_abs2, iltT, iltF, ileT, ileF, ieqT, ieqF, bv_01, bft, bv_0, bv_1, bv_t, bv_f, cond_true, cond_false, Bool.not_true, Bool.not_false, if_true, if_false, true_or, or_true, true_and, and_true, ↓reduceIte, decide_true, decide_false, reduceCtorEq, u2_s, u2_o, u2_k, u2_u2, Bool.true_or, Bool.or_true, Bool.false_or, Bool.or_false, Bool.and_true, Bool.true_and, Bool.and_false, Bool.false_and, eq_self, not_true_eq_false, not_false_eq_true, and_self, and_true, true_and, false_and, and_false, w_dv, dvm, MSH_e hM, sp_238 hM hT, sp_w68 hM hT hA, sp_w60 hM hT hA, sp_w73 hM hT hA, hss, b0, b1, b2, h]
    simp only [if_true]
    by_cases c : np = 6
    · rw [if_pos c]
      exact ⟨_, go _ (g.1 c), by omega, by omega⟩
    · rw [if_neg c]
      cases h : pFig T e 0 99 (lw T e (sk T e p)) with
      | error f =>
        obtain ⟨a, k1, k2, k3⟩ := g.2.1 c f h
        exact ⟨a, go _ k1, k2, k3⟩
      | ok r =>
        obtain ⟨k1, k2, _⟩ := g.2.2 c r h
        rw [rowP_ps] at k1
        exact ⟨go _ k1, by dsimp only; omega, by dsimp only; omega⟩
  | false =>
  simp only [if_false, Bool.false_eq_true]
  cases b3 : hasB T e (sk T e p) W_price with
  | true =>
    refine tell 6 99 W_price (by decide) b3 (by omega) (by omega) (fun σ' h => ?_)
    rw [eq_244]
    simp (disch := first | assumption | omega | (simp (disch := omega) only [vM_u, vS_u]; first | assumption | omega)) only [hK, hL, hR, hI, hN, sI, hSp, hC, hW, li, lr, ↓cnd_a, ↓cnd_o, ↓cnd_n, ↓cnd_d, ↓z0, ↓z1, ↓z2, y0n, y1i, y2r, y0e, y1e, y2e, wl_0, wl_1, wl_2, wl_3, wl_4, wl_5, wl_6, wl_7, wl_8, wl_9, wl_10, wl_11, wl_12, wl_13, wl_14, wl_15, wl_16, wl_17, wl_18, wl_19, wl_20, wl_21, wl_22, wl_23, wl_24, wl_25, wl_26, wl_27, wl_28, wl_29, wl_30, wl_31, wl_32, wl_33, wl_34, wl_35, wl_36, wl_37, wl_38, wl_39, wl_40, wl_41, wl_42, wl_43, wl_44, wl_45, wl_46, wl_47, wl_48, wl_49, wl_50, wl_51, wl_52, wl_53, wl_54, wl_55, wl_56, wl_57, wl_58, wl_59, wl_60, wl_61, wl_62, wl_63, wl_64, wl_65, wl_66, wl_67, wl_68, wl_69, wl_70, wl_71, wl_72, wl_73, wl_74, wl_75, wl_76, wl_77, wl_78, wl_79, wl_80, wl_81, wl_82, wl_83, wl_84, wl_85, wl_86, wl_87, wl_88, wl_89, wl_90, wl_91, wl_92, wl_93, wl_94, wl_95, wl_96, wl_97, wl_98, wl_99, wl_100, wl_101, wl_102, wl_103, wl_104, wl_105, wl_106, wl_107, wl_108, wl_109, wl_110, wl_111, wl_112, wl_113, wl_114, wl_115, wl_116, wl_117, wl_118, wl_119, wl_120, wl_121, wl_122, wl_123, wl_124, wl_125, wl_126, wl_127, wl_128, wl_129, wl_130, wl_159, wl_160, wl_200, wl_232, wl_255, wl_256, wl_300, wl_359, wl_360, wl_400, wl_592, wl_992, wl_999, wl_1000, wl_1024, wl_3456, wl_6512, wl_7104, wl_10000, wl_11264, wl_12345, wl_32767, wl_1000000000, wl_1103515245, wl_2000000000, w_add, w_sub, w_mul, w_neg, w_lt, w_le, w_eq, w_cl, w_in, w_nat, w_max2, w_min2, w_abs2, iltT, iltF, ileT, ileF, ieqT, ieqF, bv_01, bft, bv_0, bv_1, bv_t, bv_f, cond_true, cond_false, Bool.not_true, Bool.not_false, if_true, if_false, true_or, or_true, true_and, and_true, ↓reduceIte, decide_true, decide_false, reduceCtorEq, u2_s, u2_o, u2_k, u2_u2, Bool.true_or, Bool.or_true, Bool.false_or, Bool.or_false, Bool.and_true, Bool.true_and, Bool.and_false, Bool.false_and, eq_self, not_true_eq_false, not_false_eq_true, and_self, and_true, true_and, false_and, and_false, w_dv, dvm, MSH_e hM, sp_238 hM hT, sp_w68 hM hT hA, sp_w60 hM hT hA, sp_w73 hM hT hA, sp_w74 hM hT hA, hss, b0, b1, b2, b3, h]
  | false =>
  simp only [if_false, Bool.false_eq_true]
  cases b4 : hasB T e (sk T e p) W_bounce with
  | true =>
    refine tell 7 3 W_bounce (by decide) b4 (by omega) (by omega) (fun σ' h => ?_)
    rw [eq_244]
    simp (disch := first | assumption | omega | (simp (disch := omega) only [vM_u, vS_u]; first | assumption | omega)) only [hK, hL, hR, hI, hN, sI, hSp, hC, hW, li, lr, ↓cnd_a, ↓cnd_o, ↓cnd_n, ↓cnd_d, ↓z0, ↓z1, ↓z2, y0n, y1i, y2r, y0e, y1e, y2e, wl_0, wl_1, wl_2, wl_3, wl_4, wl_5, wl_6, wl_7, wl_8, wl_9, wl_10, wl_11, wl_12, wl_13, wl_14, wl_15, wl_16, wl_17, wl_18, wl_19, wl_20, wl_21, wl_22, wl_23, wl_24, wl_25, wl_26, wl_27, wl_28, wl_29, wl_30, wl_31, wl_32, wl_33, wl_34, wl_35, wl_36, wl_37, wl_38, wl_39, wl_40, wl_41, wl_42, wl_43, wl_44, wl_45, wl_46, wl_47, wl_48, wl_49, wl_50, wl_51, wl_52, wl_53, wl_54, wl_55, wl_56, wl_57, wl_58, wl_59, wl_60, wl_61, wl_62, wl_63, wl_64, wl_65, wl_66, wl_67, wl_68, wl_69, wl_70, wl_71, wl_72, wl_73, wl_74, wl_75, wl_76, wl_77, wl_78, wl_79, wl_80, wl_81, wl_82, wl_83, wl_84, wl_85, wl_86, wl_87, wl_88, wl_89, wl_90, wl_91, wl_92, wl_93, wl_94, wl_95, wl_96, wl_97, wl_98, wl_99, wl_100, wl_101, wl_102, wl_103, wl_104, wl_105, wl_106, wl_107, wl_108, wl_109, wl_110, wl_111, wl_112, wl_113, wl_114, wl_115, wl_116, wl_117, wl_118, wl_119, wl_120, wl_121, wl_122, wl_123, wl_124, wl_125, wl_126, wl_127, wl_128, wl_129, wl_130, wl_159, wl_160, wl_200, wl_232, wl_255, wl_256, wl_300, wl_359, wl_360, wl_400, wl_592, wl_992, wl_999, wl_1000, wl_1024, wl_3456, wl_6512, wl_7104, wl_10000, wl_11264, wl_12345, wl_32767, wl_1000000000, wl_1103515245, wl_2000000000, w_add, w_sub, w_mul, w_neg, w_lt, w_le, w_eq, w_cl, w_in, w_nat, w_max2, w_min2, w_abs2, iltT, iltF, ileT, ileF, ieqT, ieqF, bv_01, bft, bv_0, bv_1, bv_t, bv_f, cond_true, cond_false, Bool.not_true, Bool.not_false, if_true, if_false, true_or, or_true, true_and, and_true, ↓reduceIte, decide_true, decide_false, reduceCtorEq, u2_s, u2_o, u2_k, u2_u2, Bool.true_or, Bool.or_true, Bool.false_or, Bool.or_false, Bool.and_true, Bool.true_and, Bool.and_false, Bool.false_and, eq_self, not_true_eq_false, not_false_eq_true, and_self, and_true, true_and, false_and, and_false, w_dv, dvm, MSH_e hM, sp_238 hM hT, sp_w68 hM hT hA, sp_w60 hM hT hA, sp_w73 hM hT hA, sp_w74 hM hT hA, sp_w75 hM hT hA, hss, b0, b1, b2, b3, b4, h]
  | false =>
  simp only [if_false, Bool.false_eq_true]
  cases b5 : hasB T e (sk T e p) W_knock with
  | true =>
    refine tell 8 9 W_knock (by decide) b5 (by omega) (by omega) (fun σ' h => ?_)
    rw [eq_244]
    simp (disch := first | assumption | omega | (simp (disch := omega) only [vM_u, vS_u]; first | assumption | omega)) only [hK, hL, hR, hI, hN, sI, hSp, hC, hW, li, lr, ↓cnd_a, ↓cnd_o, ↓cnd_n, ↓cnd_d, ↓z0, ↓z1, ↓z2, y0n, y1i, y2r, y0e, y1e, y2e, wl_0, wl_1, wl_2, wl_3, wl_4, wl_5, wl_6, wl_7, wl_8, wl_9, wl_10, wl_11, wl_12, wl_13, wl_14, wl_15, wl_16, wl_17, wl_18, wl_19, wl_20, wl_21, wl_22, wl_23, wl_24, wl_25, wl_26, wl_27, wl_28, wl_29, wl_30, wl_31, wl_32, wl_33, wl_34, wl_35, wl_36, wl_37, wl_38, wl_39, wl_40, wl_41, wl_42, wl_43, wl_44, wl_45, wl_46, wl_47, wl_48, wl_49, wl_50, wl_51, wl_52, wl_53, wl_54, wl_55, wl_56, wl_57, wl_58, wl_59, wl_60, wl_61, wl_62, wl_63, wl_64, wl_65, wl_66, wl_67, wl_68, wl_69, wl_70, wl_71, wl_72, wl_73, wl_74, wl_75, wl_76, wl_77, wl_78, wl_79, wl_80, wl_81, wl_82, wl_83, wl_84, wl_85, wl_86, wl_87, wl_88, wl_89, wl_90, wl_91, wl_92, wl_93, wl_94, wl_95, wl_96, wl_97, wl_98, wl_99, wl_100, wl_101, wl_102, wl_103, wl_104, wl_105, wl_106, wl_107, wl_108, wl_109, wl_110, wl_111, wl_112, wl_113, wl_114, wl_115, wl_116, wl_117, wl_118, wl_119, wl_120, wl_121, wl_122, wl_123, wl_124, wl_125, wl_126, wl_127, wl_128, wl_129, wl_130, wl_159, wl_160, wl_200, wl_232, wl_255, wl_256, wl_300, wl_359, wl_360, wl_400, wl_592, wl_992, wl_999, wl_1000, wl_1024, wl_3456, wl_6512, wl_7104, wl_10000, wl_11264, wl_12345, wl_32767, wl_1000000000, wl_1103515245, wl_2000000000, w_add, w_sub, w_mul, w_neg, w_lt, w_le, w_eq, w_cl, w_in, w_nat, w_max2, w_min2, w_abs2, iltT, iltF, ileT, ileF, ieqT, ieqF, bv_01, bft, bv_0, bv_1, bv_t, bv_f, cond_true, cond_false, Bool.not_true, Bool.not_false, if_true, if_false, true_or, or_true, true_and, and_true, ↓reduceIte, decide_true, decide_false, reduceCtorEq, u2_s, u2_o, u2_k, u2_u2, Bool.true_or, Bool.or_true, Bool.false_or, Bool.or_false, Bool.and_true, Bool.true_and, Bool.and_false, Bool.false_and, eq_self, not_true_eq_false, not_false_eq_true, and_self, and_true, true_and, false_and, and_false, w_dv, dvm, MSH_e hM, sp_238 hM hT, sp_w68 hM hT hA, sp_w60 hM hT hA, sp_w73 hM hT hA, sp_w74 hM hT hA, sp_w75 hM hT hA, sp_w76 hM hT hA, hss, b0, b1, b2, b3, b4, b5, h]
  | false =>
  simp only [if_false, Bool.false_eq_true]
  cases b6 : hasB T e (sk T e p) W_counts with
  | true =>
    refine tell 9 1 W_counts (by decide) b6 (by omega) (by omega) (fun σ' h => ?_)
    rw [eq_244]
    simp (disch := first | assumption | omega | (simp (disch := omega) only [vM_u, vS_u]; first | assumption | omega)) only [hK, hL, hR, hI, hN, sI, hSp, hC, hW, li, lr, ↓cnd_a, ↓cnd_o, ↓cnd_n, ↓cnd_d, ↓z0, ↓z1, ↓z2, y0n, y1i, y2r, y0e, y1e, y2e, wl_0, wl_1, wl_2, wl_3, wl_4, wl_5, wl_6, wl_7, wl_8, wl_9, wl_10, wl_11, wl_12, wl_13, wl_14, wl_15, wl_16, wl_17, wl_18, wl_19, wl_20, wl_21, wl_22, wl_23, wl_24, wl_25, wl_26, wl_27, wl_28, wl_29, wl_30, wl_31, wl_32, wl_33, wl_34, wl_35, wl_36, wl_37, wl_38, wl_39, wl_40, wl_41, wl_42, wl_43, wl_44, wl_45, wl_46, wl_47, wl_48, wl_49, wl_50, wl_51, wl_52, wl_53, wl_54, wl_55, wl_56, wl_57, wl_58, wl_59, wl_60, wl_61, wl_62, wl_63, wl_64, wl_65, wl_66, wl_67, wl_68, wl_69, wl_70, wl_71, wl_72, wl_73, wl_74, wl_75, wl_76, wl_77, wl_78, wl_79, wl_80, wl_81, wl_82, wl_83, wl_84, wl_85, wl_86, wl_87, wl_88, wl_89, wl_90, wl_91, wl_92, wl_93, wl_94, wl_95, wl_96, wl_97, wl_98, wl_99, wl_100, wl_101, wl_102, wl_103, wl_104, wl_105, wl_106, wl_107, wl_108, wl_109, wl_110, wl_111, wl_112, wl_113, wl_114, wl_115, wl_116, wl_117, wl_118, wl_119, wl_120, wl_121, wl_122, wl_123, wl_124, wl_125, wl_126, wl_127, wl_128, wl_129, wl_130, wl_159, wl_160, wl_200, wl_232, wl_255, wl_256, wl_300, wl_359, wl_360, wl_400, wl_592, wl_992, wl_999, wl_1000, wl_1024, wl_3456, wl_6512, wl_7104, wl_10000, wl_11264, wl_12345, wl_32767, wl_1000000000, wl_1103515245, wl_2000000000, w_add, w_sub, w_mul, w_neg, w_lt, w_le, w_eq, w_cl, w_in, w_nat, w_max2, w_min2, w_abs2, iltT, iltF, ileT, ileF, ieqT, ieqF, bv_01, bft, bv_0, bv_1, bv_t, bv_f, cond_true, cond_false, Bool.not_true, Bool.not_false, if_true, if_false, true_or, or_true, true_and, and_true, ↓reduceIte, decide_true, decide_false, reduceCtorEq, u2_s, u2_o, u2_k, u2_u2, Bool.true_or, Bool.or_true, Bool.false_or, Bool.or_false, Bool.and_true, Bool.true_and, Bool.and_false, Bool.false_and, eq_self, not_true_eq_false, not_false_eq_true, and_self, and_true, true_and, false_and, and_false, w_dv, dvm, MSH_e hM, sp_238 hM hT, sp_w68 hM hT hA, sp_w60 hM hT hA, sp_w73 hM hT hA, sp_w74 hM hT hA, sp_w75 hM hT hA, sp_w76 hM hT hA, sp_w77 hM hT hA, hss, b0, b1, b2, b3, b4, b5, b6, h]
  | false =>
  simp only [if_false, Bool.false_eq_true]
  refine ⟨sk T e p, ?_, by omega, by omega⟩
  rw [eq_244]
  simp (disch := first | assumption | omega | (simp (disch := omega) only [vM_u, vS_u]; first | assumption | omega)) only [hK, hL, hR, hI, hN, sI, hSp, hC, hW, li, lr, ↓cnd_a, ↓cnd_o, ↓cnd_n, ↓cnd_d, ↓z0, ↓z1, ↓z2, y0n, y1i, y2r, y0e, y1e, y2e, wl_0, wl_1, wl_2, wl_3, wl_4, wl_5, wl_6, wl_7, wl_8, wl_9, wl_10, wl_11, wl_12, wl_13, wl_14, wl_15, wl_16, wl_17, wl_18, wl_19, wl_20, wl_21, wl_22, wl_23, wl_24, wl_25, wl_26, wl_27, wl_28, wl_29, wl_30, wl_31, wl_32, wl_33, wl_34, wl_35, wl_36, wl_37, wl_38, wl_39, wl_40, wl_41, wl_42, wl_43, wl_44, wl_45, wl_46, wl_47, wl_48, wl_49, wl_50, wl_51, wl_52, wl_53, wl_54, wl_55, wl_56, wl_57, wl_58, wl_59, wl_60, wl_61, wl_62, wl_63, wl_64, wl_65, wl_66, wl_67, wl_68, wl_69, wl_70, wl_71, wl_72, wl_73, wl_74, wl_75, wl_76, wl_77, wl_78, wl_79, wl_80, wl_81, wl_82, wl_83, wl_84, wl_85, wl_86, wl_87, wl_88, wl_89, wl_90, wl_91, wl_92, wl_93, wl_94, wl_95, wl_96, wl_97, wl_98, wl_99, wl_100, wl_101, wl_102, wl_103, wl_104, wl_105, wl_106, wl_107, wl_108, wl_109, wl_110, wl_111, wl_112, wl_113, wl_114, wl_115, wl_116, wl_117, wl_118, wl_119, wl_120, wl_121, wl_122, wl_123, wl_124, wl_125, wl_126, wl_127, wl_128, wl_129, wl_130, wl_159, wl_160, wl_200, wl_232, wl_255, wl_256, wl_300, wl_359, wl_360, wl_400, wl_592, wl_992, wl_999, wl_1000, wl_1024, wl_3456, wl_6512, wl_7104, wl_10000, wl_11264, wl_12345, wl_32767, wl_1000000000, wl_1103515245, wl_2000000000, w_add, w_sub, w_mul, w_neg, w_lt, w_le, w_eq, w_cl, w_in, w_nat, w_max2, w_min2, w_abs2, iltT, iltF, ileT, ileF, ieqT, ieqF, bv_01, bft, bv_0, bv_1, bv_t, bv_f, cond_true, cond_false, Bool.not_true, Bool.not_false, if_true, if_false, true_or, or_true, true_and, and_true, ↓reduceIte, decide_true, decide_false, reduceCtorEq, u2_s, u2_o, u2_k, u2_u2, Bool.true_or, Bool.or_true, Bool.false_or, Bool.or_false, Bool.and_true, Bool.true_and, Bool.and_false, Bool.false_and, eq_self, not_true_eq_false, not_false_eq_true, and_self, and_true, true_and, false_and, and_false, w_dv, dvm, MSH_e hM, sp_238 hM hT, sp_w68 hM hT hA, sp_w60 hM hT hA, sp_w73 hM hT hA, sp_w74 hM hT hA, sp_w75 hM hT hA, sp_w76 hM hT hA, sp_w77 hM hT hA, hss, b0, b1, b2, b3, b4, b5, b6, ps_11, sp_236 hM]
end FLN
