/-! THE CLASS: a throw as it is aimed -/
def FAim (I I' : Nat → Nat → Int32) : Prop := ∀ a k, (a < 273 ∨ 276 < a) → I' a k = I a k
theorem FAim_rf {I : Nat → Nat → Int32} : FAim I I := fun _ _ _ => rfl
theorem FAim_tr {I I' I'' : Nat → Nat → Int32} (h : FAim I I') (h2 : FAim I' I'') : FAim I I'' := fun a k x => (h2 a k x).trans (h a k x)
theorem FAim_u {I : Nat → Nat → Int32} {o k : Nat} {v : Int32} (h : 273 ≤ o ∧ o ≤ 276) : FAim I (u2 I o k v) := fun a b h1 => by
  rw [u2_o _ _ _ _ (by omega)]
theorem FA_Aim {I I' : Nat → Nat → Int32} (h : FA I I') : FAim I I' := fun a k x => h a k (by omega) (by omega) (by omega)
theorem vS_f {q : Nat} {I I' : Nat → Nat → Int32} (h : ∀ a k, q ≤ a → a ≤ q + 10 → I' a k = I a k) : vS I' q = vS I q := by
  funext z
  unfold vS
  rw [h (q + 1) 2 (by omega) (by omega), h (q + 3) 2 (by omega) (by omega), h (q + 5) 2 (by omega) (by omega), h (q + 7) 2 (by omega) (by omega), h (q + 9) 2 (by omega) (by omega), h q 11 (by omega) (by omega), h q 18 (by omega) (by omega), h (q + 2) _ (by omega) (by omega), h (q + 4) _ (by omega) (by omega), h (q + 6) _ (by omega) (by omega), h (q + 8) _ (by omega) (by omega), h (q + 10) _ (by omega) (by omega), h q _ (by omega) (by omega)]
theorem Wd_f {q : Nat} {I I' : Nat → Nat → Int32} (h : ∀ a k, q ≤ a → a ≤ q + 10 → I' a k = I a k) (hW : Wd I q) : Wd I' q := by
  obtain ⟨h1, h2, h3, h4, h5⟩ := hW
  exact ⟨(h _ _ (by omega) (by omega)).trans h1, (h _ _ (by omega) (by omega)).trans h2, (h _ _ (by omega) (by omega)).trans h3, (h _ _ (by omega) (by omega)).trans h4, (h _ _ (by omega) (by omega)).trans h5⟩
theorem ALaw_f {K L : Nat → Nat} {R R' : Nat → Nat → Nat} {I I' : Nat → Nat → Int32} {lid : Nat} {ss : List Int} {ln : Int} (gL : ALaw K L R I lid ss ln) (h : ∀ a k, (a < 82 ∨ 305 ≤ a) → I' a k = I a k) (hR : R' lid 1 = R lid 1) : ALaw K L R' I' lid ss ln := by
  obtain ⟨⟨l1, l2, l3⟩, ⟨l4, l4'⟩, ⟨l5, l6, l7⟩, l8, l9, l10⟩ := gL
  exact ⟨⟨l1, by rw [hR]; exact l2, by rw [hR]; exact l3⟩, ⟨l4, by rw [hR]; exact l4'⟩, ⟨l5, by rw [h _ _ l4]; exact l6, l7⟩, fun j hj => by rw [hR, h _ _ l4']; exact l8 j hj, fun s hs h1 => by rw [h _ _ l4]; exact l9 s hs h1, l10⟩
theorem ALaw_q {K L : Nat → Nat} {R : Nat → Nat → Nat} {I : Nat → Nat → Int32} {lid : Nat} {ss ss' : List Int} {ln ln' : Int} (h : ALaw K L R I lid ss ln) (h' : ALaw K L R I lid ss' ln') : ss = ss' ∧ ln = ln' := by
  obtain ⟨⟨l1, l2, l3⟩, l4, ⟨l5, l6, l7⟩, l8, l9, l10, -⟩ := h
  obtain ⟨⟨m1, m2, m3⟩, m4, ⟨m5, m6, m7⟩, m8, m9, m10, -⟩ := h'
  have hl : ss.length = ss'.length := l3.symm.trans m3
  refine ⟨List.ext_getElem hl fun i h1 h2 => ?_, ?_⟩
  · have e := (l8 i h1).symm.trans (m8 i h2)
    have v1 := wfS_v l10 _ (List.getElem_mem h1)
    have v2 := wfS_v m10 _ (List.getElem_mem h2)
    unfold vS1 at v1 v2
    simp only [List.getD_eq_getElem?_getD, List.getElem?_eq_getElem h1, List.getElem?_eq_getElem h2, Option.getD_some] at e
    rw [w_eq (by omega)] at e
    exact e
  · have e := l6.symm.trans m6
    rw [w_eq (by omega)] at e
    exact e
theorem exL_c {F F' : Int → Int32} : ∀ (ss : List Int) (x : List Int32 × (Int → Int)), (∀ s ∈ ss, s / 1024 = 1 → F (s % 1024) = F' (s % 1024)) → exL F ss x = exL F' ss x
  | [], _, _ => rfl
  | s :: ss, x, h => by
    have e : ex1 F x s = ex1 F' x s := by
      unfold ex1
      by_cases c : s / 1024 = 1
      · simp only [if_neg (show ¬ s / 1024 = 0 by omega), if_pos c, h s List.mem_cons_self c]
      · simp only [if_neg c]
    show exL F ss (ex1 F x s) = exL F' ss (ex1 F' x s)
    rw [e, exL_c ss _ (fun s' hs => h s' (List.mem_cons_of_mem _ hs))]
theorem evS_c {F F' : Int → Int32} {ss : List Int} {ln : Int} (h : ∀ s ∈ ss, s / 1024 = 1 → F (s % 1024) = F' (s % 1024)) : evS ss ln F = evS ss ln F' := by
  unfold evS
  rw [exL_c ss _ h]
theorem exL_b {F : Int → Int32} : ∀ (ss : List Int) (x : List Int32 × (Int → Int)) (k : Int), (∀ s ∈ ss, vS1 s) → x.2 k ≤ (exL F ss x).2 k ∧ (exL F ss x).2 k ≤ x.2 k + 63 * cntL ss
  | [], x, k, _ => ⟨Int.le_refl _, by show x.2 k ≤ x.2 k + 63 * (0 : Nat); omega⟩
  | s :: ss, x, k, h => by
    have ih := exL_b (F := F) ss (ex1 F x s) k (fun s' hs => h s' (List.mem_cons_of_mem _ hs))
    have hv := h s List.mem_cons_self
    have e : x.2 k ≤ (ex1 F x s).2 k ∧ (ex1 F x s).2 k ≤ x.2 k + 63 * ((if s / 1024 = 8 then 1 else 0 : Nat) : Int) := by
      unfold ex1
      by_cases c0 : s / 1024 = 0
      · rw [if_pos c0]; dsimp only; omega
      · by_cases c1 : s / 1024 = 1
        · rw [if_neg c0, if_pos c1]; dsimp only; omega
        · by_cases c5 : s / 1024 = 5
          · rw [if_neg c0, if_neg c1, if_pos c5]; dsimp only; omega
          · by_cases c8 : s / 1024 = 8
            · rw [if_neg c0, if_neg c1, if_neg c5, if_pos c8, if_pos c8]
              dsimp only
              split
              · dsimp only
                split <;> omega
              · omega
            · rw [if_neg c0, if_neg c1, if_neg c5, if_neg c8]; dsimp only; omega
    have e2 : cntL (s :: ss) = (if s / 1024 = 8 then 1 else 0) + cntL ss := rfl
    show x.2 k ≤ (exL F ss (ex1 F x s)).2 k ∧ (exL F ss (ex1 F x s)).2 k ≤ x.2 k + 63 * (cntL (s :: ss) : Nat)
    rw [e2]
    omega
theorem evS_b {K L : Nat → Nat} {R : Nat → Nat → Nat} {I : Nat → Nat → Int32} {lid : Nat} {ss : List Int} {ln : Int} (h : ALaw K L R I lid ss ln) (F : Int → Int32) (k : Int) : 0 ≤ evS ss ln F k ∧ evS ss ln F k ≤ 758 := by
  obtain ⟨-, -, -, -, -, l10, l11⟩ := h
  have := exL_b (F := F) ss ([], sy0 ln) k (wfS_v l10)
  unfold evS
  have e : (([], sy0 ln) : List Int32 × (Int → Int)).2 k = sy0 ln k := rfl
  rw [e] at this
  have e2 : 0 ≤ sy0 ln k ∧ sy0 ln k ≤ 2 := by unfold sy0; split <;> omega
  omega
/-- what is always so of the class's aim -/
def AimOK (K L : Nat → Nat) (R : Nat → Nat → Nat) (I : Nat → Nat → Int32) (ss : List Int) (ln : Int) : Prop := ALaw K L R I (R 273 4) ss ln ∧ (I 273 5 = w 0 ∨ I 273 5 = w 1) ∧ (I 273 5 = w 0 → SuR I (evS ss ln (fun n => I 274 (ix n))))
section AIM
variable {vn vc vw : Nat} {K L : Nat → Nat} {R : Nat → Nat → Nat} {I : Nat → Nat → Int32} {J : Nat → Nat → Int64}
theorem sp_337 {d : Nat} {a : Nat} {v : Int32} {n : Nat} (kK : K a = 20) (kL : L a = n) (hn : n < 100000) : ∃ I', ev PR (d + 1) 337 [.ref a, .int v] (((vn, vc, vw, K, L, R), I, J) : HS) = some (.inl none, (((vn, vc, vw, K, L, R), I', J) : HS)) ∧ (∀ k, k < n → I' a k = v) ∧ ∀ b k, b ≠ a → I' b k = I b k := by
  have lp : ∀ (m : Nat) (k : Int) (I : Nat → Nat → Int32), 0 ≤ k → k + m = n → ∃ I', atv PR d cd_337 5 [.ref a, .int v, .int (w k), .int (w n)] [] (((vn, vc, vw, K, L, R), I, J) : HS) = some (.inl none, (((vn, vc, vw, K, L, R), I', J) : HS)) ∧ (∀ j : Nat, j < n → (k ≤ j → I' a j = v) ∧ (j < k → I' a j = I a j)) ∧ ∀ b j, b ≠ a → I' b j = I b j := by
    intro m
    induction m with
    | zero =>
      intro k I hk he
      refine ⟨I, ?_, fun j hj => ⟨fun q => by omega, fun _ => rfl⟩, fun _ _ _ => rfl⟩
      rw [eq_337_5]
      simp (disch := first | assumption | omega | (simp (disch := omega) only [vM_u, vS_u]; first | assumption | omega)) only [hK, hL, hR, hI, hN, sI, hSp, hC, hW, li, lr, ↓cnd_a, ↓cnd_o, ↓cnd_n, ↓cnd_d, ↓z0, ↓z1, ↓z2, y0n, y1i, y2r, y0e, y1e, y2e, wl_0, wl_1, wl_2, wl_3, wl_4, wl_5, wl_6, wl_7, wl_8, wl_9, wl_10, wl_11, wl_12, wl_13, wl_14, wl_15, wl_16, wl_17, wl_18, wl_19, wl_20, wl_21, wl_22, wl_23, wl_24, wl_25, wl_26, wl_27, wl_28, wl_29, wl_30, wl_31, wl_32, wl_33, wl_34, wl_35, wl_36, wl_37, wl_38, wl_39, wl_40, wl_41, wl_42, wl_43, wl_44, wl_45, wl_46, wl_47, wl_48, wl_49, wl_50, wl_51, wl_52, wl_53, wl_54, wl_55, wl_56, wl_57, wl_58, wl_59, wl_60, wl_61, wl_62, wl_63, wl_64, wl_65, wl_66, wl_67, wl_68, wl_69, wl_70, wl_71, wl_72, wl_73, wl_74, wl_75, wl_76, wl_77, wl_78, wl_79, wl_80, wl_81, wl_82, wl_83, wl_84, wl_85, wl_86, wl_87, wl_88, wl_89, wl_90, wl_91, wl_92, wl_93, wl_94, wl_95, wl_96, wl_97, wl_98, wl_99, wl_100, wl_101, wl_102, wl_103, wl_104, wl_105, wl_106, wl_107, wl_108, wl_109, wl_110, wl_111, wl_112, wl_113, wl_114, wl_115, wl_116, wl_117, wl_118, wl_119, wl_120, wl_121, wl_122, wl_123, wl_124, wl_125, wl_126, wl_127, wl_128, wl_129, wl_130, wl_159, wl_160, wl_200, wl_232, wl_255, wl_256, wl_300, wl_359, wl_360, wl_400, wl_592, wl_992, wl_999, wl_1000, wl_1024, wl_3456, wl_6512, wl_7104, wl_10000, wl_11264, wl_12345, wl_32767, wl_1000000000, wl_1103515245, wl_2000000000, w_add, w_sub, w_mul, w_neg, w_lt, w_le, w_eq, w_cl, w_in, w_nat, w_max2, w_min2, w_abs2, iltT, iltF, ileT, ileF, ieqT, ieqF, bv_01, bft, bv_0, bv_1, bv_t, bv_f, cond_true, cond_false, Bool.not_true, Bool.not_false, if_true, if_false, true_or, or_true, true_and, and_true, ↓reduceIte, decide_true, decide_false, reduceCtorEq, u2_s, u2_o, u2_k, u2_u2, Bool.true_or, Bool.or_true, Bool.false_or, Bool.or_false, Bool.and_true, Bool.true_and, Bool.and_false, Bool.false_and, eq_self, not_true_eq_false, not_false_eq_true, and_self, and_true, true_and, false_and, and_false, w_dv, dvm]
    | succ m ih =>
      intro k I hk he
      obtain ⟨I', e, g1, g2⟩ := ih (k + 1) (u2 I a (ix k) v) (by omega) (by omega)
      refine ⟨I', ?_, fun j hj => ⟨fun q => ?_, fun q => ?_⟩, fun b j hb => by rw [g2 b j hb, u2_o _ _ _ _ hb]⟩
      · rw [eq_337_5]
        simp (disch := first | assumption | omega | (simp (disch := omega) only [vM_u, vS_u]; first | assumption | omega)) only [hK, hL, hR, hI, hN, sI, hSp, hC, hW, li, lr, ↓cnd_a, ↓cnd_o, ↓cnd_n, ↓cnd_d, ↓z0, ↓z1, ↓z2, y0n, y1i, y2r, y0e, y1e, y2e, wl_0, wl_1, wl_2, wl_3, wl_4, wl_5, wl_6, wl_7, wl_8, wl_9, wl_10, wl_11, wl_12, wl_13, wl_14, wl_15, wl_16, wl_17, wl_18, wl_19, wl_20, wl_21, wl_22, wl_23, wl_24, wl_25, wl_26, wl_27, wl_28, wl_29, wl_30, wl_31, wl_32, wl_33, wl_34, wl_35, wl_36, wl_37, wl_38, wl_39, wl_40, wl_41, wl_42, wl_43, wl_44, wl_45, wl_46, wl_47, wl_48, wl_49, wl_50, wl_51, wl_52, wl_53, wl_54, wl_55, wl_56, wl_57, wl_58, wl_59, wl_60, wl_61, wl_62, wl_63, wl_64, wl_65, wl_66, wl_67, wl_68, wl_69, wl_70, wl_71, wl_72, wl_73, wl_74, wl_75, wl_76, wl_77, wl_78, wl_79, wl_80, wl_81, wl_82, wl_83, wl_84, wl_85, wl_86, wl_87, wl_88, wl_89, wl_90, wl_91, wl_92, wl_93, wl_94, wl_95, wl_96, wl_97, wl_98, wl_99, wl_100, wl_101, wl_102, wl_103, wl_104, wl_105, wl_106, wl_107, wl_108, wl_109, wl_110, wl_111, wl_112, wl_113, wl_114, wl_115, wl_116, wl_117, wl_118, wl_119, wl_120, wl_121, wl_122, wl_123, wl_124, wl_125, wl_126, wl_127, wl_128, wl_129, wl_130, wl_159, wl_160, wl_200, wl_232, wl_255, wl_256, wl_300, wl_359, wl_360, wl_400, wl_592, wl_992, wl_999, wl_1000, wl_1024, wl_3456, wl_6512, wl_7104, wl_10000, wl_11264, wl_12345, wl_32767, wl_1000000000, wl_1103515245, wl_2000000000, w_add, w_sub, w_mul, w_neg, w_lt, w_le, w_eq, w_cl, w_in, w_nat, w_max2, w_min2, w_abs2, iltT, iltF, ileT, ileF, ieqT, ieqF, bv_01, bft, bv_0, bv_1, bv_t, bv_f, cond_true, cond_false, Bool.not_true, Bool.not_false, if_true, if_false, true_or, or_true, true_and, and_true, ↓reduceIte, decide_true, decide_false, reduceCtorEq, u2_s, u2_o, u2_k, u2_u2, Bool.true_or, Bool.or_true, Bool.false_or, Bool.or_false, Bool.and_true, Bool.true_and, Bool.and_false, Bool.false_and, eq_self, not_true_eq_false, not_false_eq_true, and_self, and_true, true_and, false_and, and_false, w_dv, dvm, kK, kL]
        exact e
      · by_cases c : (j : Int) = k
        · rw [(g1 j hj).2 (by omega), ← c, ix_nat, u2_s]
        · exact (g1 j hj).1 (by omega)
      · rw [(g1 j hj).2 (by omega), u2_k _ _ _ _ (by unfold ix; omega)]
  obtain ⟨I', e, g1, g2⟩ := lp n 0 I (by omega) (by omega)
  refine ⟨I', ?_, fun k hk => (g1 k hk).1 (by omega), g2⟩
  rw [eq_337]
  simp (disch := first | assumption | omega | (simp (disch := omega) only [vM_u, vS_u]; first | assumption | omega)) only [hK, hL, hR, hI, hN, sI, hSp, hC, hW, li, lr, ↓cnd_a, ↓cnd_o, ↓cnd_n, ↓cnd_d, ↓z0, ↓z1, ↓z2, y0n, y1i, y2r, y0e, y1e, y2e, wl_0, wl_1, wl_2, wl_3, wl_4, wl_5, wl_6, wl_7, wl_8, wl_9, wl_10, wl_11, wl_12, wl_13, wl_14, wl_15, wl_16, wl_17, wl_18, wl_19, wl_20, wl_21, wl_22, wl_23, wl_24, wl_25, wl_26, wl_27, wl_28, wl_29, wl_30, wl_31, wl_32, wl_33, wl_34, wl_35, wl_36, wl_37, wl_38, wl_39, wl_40, wl_41, wl_42, wl_43, wl_44, wl_45, wl_46, wl_47, wl_48, wl_49, wl_50, wl_51, wl_52, wl_53, wl_54, wl_55, wl_56, wl_57, wl_58, wl_59, wl_60, wl_61, wl_62, wl_63, wl_64, wl_65, wl_66, wl_67, wl_68, wl_69, wl_70, wl_71, wl_72, wl_73, wl_74, wl_75, wl_76, wl_77, wl_78, wl_79, wl_80, wl_81, wl_82, wl_83, wl_84, wl_85, wl_86, wl_87, wl_88, wl_89, wl_90, wl_91, wl_92, wl_93, wl_94, wl_95, wl_96, wl_97, wl_98, wl_99, wl_100, wl_101, wl_102, wl_103, wl_104, wl_105, wl_106, wl_107, wl_108, wl_109, wl_110, wl_111, wl_112, wl_113, wl_114, wl_115, wl_116, wl_117, wl_118, wl_119, wl_120, wl_121, wl_122, wl_123, wl_124, wl_125, wl_126, wl_127, wl_128, wl_129, wl_130, wl_159, wl_160, wl_200, wl_232, wl_255, wl_256, wl_300, wl_359, wl_360, wl_400, wl_592, wl_992, wl_999, wl_1000, wl_1024, wl_3456, wl_6512, wl_7104, wl_10000, wl_11264, wl_12345, wl_32767, wl_1000000000, wl_1103515245, wl_2000000000, w_add, w_sub, w_mul, w_neg, w_lt, w_le, w_eq, w_cl, w_in, w_nat, w_max2, w_min2, w_abs2, iltT, iltF, ileT, ileF, ieqT, ieqF, bv_01, bft, bv_0, bv_1, bv_t, bv_f, cond_true, cond_false, Bool.not_true, Bool.not_false, if_true, if_false, true_or, or_true, true_and, and_true, ↓reduceIte, decide_true, decide_false, reduceCtorEq, u2_s, u2_o, u2_k, u2_u2, Bool.true_or, Bool.or_true, Bool.false_or, Bool.or_false, Bool.and_true, Bool.true_and, Bool.and_false, Bool.false_and, eq_self, not_true_eq_false, not_false_eq_true, and_self, and_true, true_and, false_and, and_false, w_dv, dvm, kK, kL]
  exact e
theorem sp_36 {d : Nat} {lid : Nat} {k : Int} (kK : K lid = 3) : ev PR (d + 1) 36 [.ref lid, .int (w k)] (((vn, vc, vw, K, L, R), I, J) : HS) = some (.inl (some (.int (w (if (I lid 2 >>> (w k &&& w 31)) &&& w 1 = w 1 then 1 else 0)))), (((vn, vc, vw, K, L, R), I, J) : HS)) := by
  rw [eq_36]
  simp (disch := first | assumption | omega | (simp (disch := omega) only [vM_u, vS_u]; first | assumption | omega)) only [hK, hL, hR, hI, hN, sI, hSp, hC, hW, li, lr, ↓cnd_a, ↓cnd_o, ↓cnd_n, ↓cnd_d, ↓z0, ↓z1, ↓z2, y0n, y1i, y2r, y0e, y1e, y2e, wl_0, wl_1, wl_2, wl_3, wl_4, wl_5, wl_6, wl_7, wl_8, wl_9, wl_10, wl_11, wl_12, wl_13, wl_14, wl_15, wl_16, wl_17, wl_18, wl_19, wl_20, wl_21, wl_22, wl_23, wl_24, wl_25, wl_26, wl_27, wl_28, wl_29, wl_30, wl_31, wl_32, wl_33, wl_34, wl_35, wl_36, wl_37, wl_38, wl_39, wl_40, wl_41, wl_42, wl_43, wl_44, wl_45, wl_46, wl_47, wl_48, wl_49, wl_50, wl_51, wl_52, wl_53, wl_54, wl_55, wl_56, wl_57, wl_58, wl_59, wl_60, wl_61, wl_62, wl_63, wl_64, wl_65, wl_66, wl_67, wl_68, wl_69, wl_70, wl_71, wl_72, wl_73, wl_74, wl_75, wl_76, wl_77, wl_78, wl_79, wl_80, wl_81, wl_82, wl_83, wl_84, wl_85, wl_86, wl_87, wl_88, wl_89, wl_90, wl_91, wl_92, wl_93, wl_94, wl_95, wl_96, wl_97, wl_98, wl_99, wl_100, wl_101, wl_102, wl_103, wl_104, wl_105, wl_106, wl_107, wl_108, wl_109, wl_110, wl_111, wl_112, wl_113, wl_114, wl_115, wl_116, wl_117, wl_118, wl_119, wl_120, wl_121, wl_122, wl_123, wl_124, wl_125, wl_126, wl_127, wl_128, wl_129, wl_130, wl_159, wl_160, wl_200, wl_232, wl_255, wl_256, wl_300, wl_359, wl_360, wl_400, wl_592, wl_992, wl_999, wl_1000, wl_1024, wl_3456, wl_6512, wl_7104, wl_10000, wl_11264, wl_12345, wl_32767, wl_1000000000, wl_1103515245, wl_2000000000, w_add, w_sub, w_mul, w_neg, w_lt, w_le, w_eq, w_cl, w_in, w_nat, w_max2, w_min2, w_abs2, iltT, iltF, ileT, ileF, ieqT, ieqF, bv_01, bft, bv_0, bv_1, bv_t, bv_f, cond_true, cond_false, Bool.not_true, Bool.not_false, if_true, if_false, true_or, or_true, true_and, and_true, ↓reduceIte, decide_true, decide_false, reduceCtorEq, u2_s, u2_o, u2_k, u2_u2, Bool.true_or, Bool.or_true, Bool.false_or, Bool.or_false, Bool.and_true, Bool.true_and, Bool.and_false, Bool.false_and, eq_self, not_true_eq_false, not_false_eq_true, and_self, and_true, true_and, false_and, and_false, w_dv, dvm, kK]
  by_cases m : (I lid 2 >>> (w k &&& w 31)) &&& w 1 = w 1 <;> simp only [m, if_true, if_false]
theorem sp_6 {d : Nat} {ss : List Int} {ln k : Int} {v : Int32} (hX : XSH K L R) (hA : AimOK K L R I ss ln) (hk : 0 ≤ k ∧ k < 8) :
    ∃ I', ev PR (d + 2) 6 [.ref 273, .int (w k), .int v] (((vn, vc, vw, K, L, R), I, J) : HS) = some (.inl none, (((vn, vc, vw, K, L, R), I', J) : HS)) ∧ AimOK K L R I' ss ln ∧ (∀ j, I' 274 j = if j = ix k then v else I 274 j) ∧ FAim I I' := by
  obtain ⟨gL, h5, hs⟩ := hA
  have hl := gL.1.1
  have hl2 := gL.2.1.1
  by_cases c : I 274 (ix k) = v
  · refine ⟨I, ?_, ⟨gL, h5, hs⟩, fun j => by by_cases q : j = ix k; (rw [if_pos q, q, c]); (rw [if_neg q]), FAim_rf⟩
    rw [eq_6]
    simp (disch := first | assumption | omega | (simp (disch := omega) only [vM_u, vS_u]; first | assumption | omega)) only [hK, hL, hR, hI, hN, sI, hSp, hC, hW, li, lr, ↓cnd_a, ↓cnd_o, ↓cnd_n, ↓cnd_d, ↓z0, ↓z1, ↓z2, y0n, y1i, y2r, y0e, y1e, y2e, wl_0, wl_1, wl_2, wl_3, wl_4, wl_5, wl_6, wl_7, wl_8, wl_9, wl_10, wl_11, wl_12, wl_13, wl_14, wl_15, wl_16, wl_17, wl_18, wl_19, wl_20, wl_21, wl_22, wl_23, wl_24, wl_25, wl_26, wl_27, wl_28, wl_29, wl_30, wl_31, wl_32, wl_33, wl_34, wl_35, wl_36, wl_37, wl_38, wl_39, wl_40, wl_41, wl_42, wl_43, wl_44, wl_45, wl_46, wl_47, wl_48, wl_49, wl_50, wl_51, wl_52, wl_53, wl_54, wl_55, wl_56, wl_57, wl_58, wl_59, wl_60, wl_61, wl_62, wl_63, wl_64, wl_65, wl_66, wl_67, wl_68, wl_69, wl_70, wl_71, wl_72, wl_73, wl_74, wl_75, wl_76, wl_77, wl_78, wl_79, wl_80, wl_81, wl_82, wl_83, wl_84, wl_85, wl_86, wl_87, wl_88, wl_89, wl_90, wl_91, wl_92, wl_93, wl_94, wl_95, wl_96, wl_97, wl_98, wl_99, wl_100, wl_101, wl_102, wl_103, wl_104, wl_105, wl_106, wl_107, wl_108, wl_109, wl_110, wl_111, wl_112, wl_113, wl_114, wl_115, wl_116, wl_117, wl_118, wl_119, wl_120, wl_121, wl_122, wl_123, wl_124, wl_125, wl_126, wl_127, wl_128, wl_129, wl_130, wl_159, wl_160, wl_200, wl_232, wl_255, wl_256, wl_300, wl_359, wl_360, wl_400, wl_592, wl_992, wl_999, wl_1000, wl_1024, wl_3456, wl_6512, wl_7104, wl_10000, wl_11264, wl_12345, wl_32767, wl_1000000000, wl_1103515245, wl_2000000000, w_add, w_sub, w_mul, w_neg, w_lt, w_le, w_eq, w_cl, w_in, w_nat, w_max2, w_min2, w_abs2, iltT, iltF, ileT, ileF, ieqT, ieqF, bv_01, bft, bv_0, bv_1, bv_t, bv_f, cond_true, cond_false, Bool.not_true, Bool.not_false, if_true, if_false, true_or, or_true, true_and, and_true, ↓reduceIte, decide_true, decide_false, reduceCtorEq, u2_s, u2_o, u2_k, u2_u2, Bool.true_or, Bool.or_true, Bool.false_or, Bool.or_false, Bool.and_true, Bool.true_and, Bool.and_false, Bool.false_and, eq_self, not_true_eq_false, not_false_eq_true, and_self, and_true, true_and, false_and, and_false, w_dv, dvm, XSH_e hX, c]
  · have g1 : ∀ (v5 : Int32), ALaw K L R (u2 (u2 I 274 (ix k) v) 273 5 v5) (R 273 4) ss ln := fun v5 => ALaw_f gL (fun a b hab => by rw [u2_o _ _ _ _ (by omega), u2_o _ _ _ _ (by omega)]) rfl
    have g2 : ∀ (v5 : Int32) (j : Nat), u2 (u2 I 274 (ix k) v) 273 5 v5 274 j = if j = ix k then v else I 274 j := fun v5 j => by
      rw [u2_o _ _ _ _ (by decide), u2_r]
      by_cases q : j = ix k
      · rw [if_pos ⟨rfl, q⟩, if_pos q]
      · rw [if_neg (fun z => q z.2), if_neg q]
    have g3 : ∀ (v5 : Int32), FAim I (u2 (u2 I 274 (ix k) v) 273 5 v5) := fun v5 => FAim_tr (FAim_u (by omega)) (FAim_u (by omega))
    rcases h5 with h5 | h5
    · by_cases m : (I (R 273 4) 2 >>> (w k &&& w 31)) &&& w 1 = w 1
      · refine ⟨_, ?_, ⟨g1 (w 1), Or.inr (by rw [u2_s]), fun q => by rw [u2_s] at q; rw [w_eq (by omega)] at q; omega⟩, g2 (w 1), g3 (w 1)⟩
        rw [eq_6]
        simp (disch := first | assumption | omega | (simp (disch := omega) only [vM_u, vS_u]; first | assumption | omega)) only [hK, hL, hR, hI, hN, sI, hSp, hC, hW, li, lr, ↓cnd_a, ↓cnd_o, ↓cnd_n, ↓cnd_d, ↓z0, ↓z1, ↓z2, y0n, y1i, y2r, y0e, y1e, y2e, wl_0, wl_1, wl_2, wl_3, wl_4, wl_5, wl_6, wl_7, wl_8, wl_9, wl_10, wl_11, wl_12, wl_13, wl_14, wl_15, wl_16, wl_17, wl_18, wl_19, wl_20, wl_21, wl_22, wl_23, wl_24, wl_25, wl_26, wl_27, wl_28, wl_29, wl_30, wl_31, wl_32, wl_33, wl_34, wl_35, wl_36, wl_37, wl_38, wl_39, wl_40, wl_41, wl_42, wl_43, wl_44, wl_45, wl_46, wl_47, wl_48, wl_49, wl_50, wl_51, wl_52, wl_53, wl_54, wl_55, wl_56, wl_57, wl_58, wl_59, wl_60, wl_61, wl_62, wl_63, wl_64, wl_65, wl_66, wl_67, wl_68, wl_69, wl_70, wl_71, wl_72, wl_73, wl_74, wl_75, wl_76, wl_77, wl_78, wl_79, wl_80, wl_81, wl_82, wl_83, wl_84, wl_85, wl_86, wl_87, wl_88, wl_89, wl_90, wl_91, wl_92, wl_93, wl_94, wl_95, wl_96, wl_97, wl_98, wl_99, wl_100, wl_101, wl_102, wl_103, wl_104, wl_105, wl_106, wl_107, wl_108, wl_109, wl_110, wl_111, wl_112, wl_113, wl_114, wl_115, wl_116, wl_117, wl_118, wl_119, wl_120, wl_121, wl_122, wl_123, wl_124, wl_125, wl_126, wl_127, wl_128, wl_129, wl_130, wl_159, wl_160, wl_200, wl_232, wl_255, wl_256, wl_300, wl_359, wl_360, wl_400, wl_592, wl_992, wl_999, wl_1000, wl_1024, wl_3456, wl_6512, wl_7104, wl_10000, wl_11264, wl_12345, wl_32767, wl_1000000000, wl_1103515245, wl_2000000000, w_add, w_sub, w_mul, w_neg, w_lt, w_le, w_eq, w_cl, w_in, w_nat, w_max2, w_min2, w_abs2, iltT, iltF, ileT, ileF, ieqT, ieqF, bv_01, bft, bv_0, bv_1, bv_t, bv_f, cond_true, cond_false, Bool.not_true, Bool.not_false, if_true, if_false, true_or, or_true, true_and, and_true, ↓reduceIte, decide_true, decide_false, reduceCtorEq, u2_s, u2_o, u2_k, u2_u2, Bool.true_or, Bool.or_true, Bool.false_or, Bool.or_false, Bool.and_true, Bool.true_and, Bool.and_false, Bool.false_and, eq_self, not_true_eq_false, not_false_eq_true, and_self, and_true, true_and, false_and, and_false, w_dv, dvm, XSH_e hX, c, h5, hl, sp_36, u2_o, m]
      · have ev : evS ss ln (fun n => u2 (u2 I 274 (ix k) v) 273 5 (w 0) 274 (ix n)) = evS ss ln (fun n => I 274 (ix n)) := evS_c fun s hs h1 => by
          rw [g2, if_neg fun q => ?_]
          have e : s % 1024 = k := by unfold ix at q; have := wfS_v gL.2.2.2.2.2.1 s hs; unfold vS1 at this; omega
          have := gL.2.2.2.2.1 s hs h1
          rw [e] at this
          exact m this
        refine ⟨_, ?_, ⟨g1 (w 0), Or.inl (by rw [u2_s]), fun _ => by rw [ev]; exact fun j j1 j2 => by rw [u2_o _ _ _ _ (by decide), u2_o _ _ _ _ (by decide)]; exact hs h5 j j1 j2⟩, g2 (w 0), g3 (w 0)⟩
        rw [eq_6]
        simp (disch := first | assumption | omega | (simp (disch := omega) only [vM_u, vS_u]; first | assumption | omega)) only [hK, hL, hR, hI, hN, sI, hSp, hC, hW, li, lr, ↓cnd_a, ↓cnd_o, ↓cnd_n, ↓cnd_d, ↓z0, ↓z1, ↓z2, y0n, y1i, y2r, y0e, y1e, y2e, wl_0, wl_1, wl_2, wl_3, wl_4, wl_5, wl_6, wl_7, wl_8, wl_9, wl_10, wl_11, wl_12, wl_13, wl_14, wl_15, wl_16, wl_17, wl_18, wl_19, wl_20, wl_21, wl_22, wl_23, wl_24, wl_25, wl_26, wl_27, wl_28, wl_29, wl_30, wl_31, wl_32, wl_33, wl_34, wl_35, wl_36, wl_37, wl_38, wl_39, wl_40, wl_41, wl_42, wl_43, wl_44, wl_45, wl_46, wl_47, wl_48, wl_49, wl_50, wl_51, wl_52, wl_53, wl_54, wl_55, wl_56, wl_57, wl_58, wl_59, wl_60, wl_61, wl_62, wl_63, wl_64, wl_65, wl_66, wl_67, wl_68, wl_69, wl_70, wl_71, wl_72, wl_73, wl_74, wl_75, wl_76, wl_77, wl_78, wl_79, wl_80, wl_81, wl_82, wl_83, wl_84, wl_85, wl_86, wl_87, wl_88, wl_89, wl_90, wl_91, wl_92, wl_93, wl_94, wl_95, wl_96, wl_97, wl_98, wl_99, wl_100, wl_101, wl_102, wl_103, wl_104, wl_105, wl_106, wl_107, wl_108, wl_109, wl_110, wl_111, wl_112, wl_113, wl_114, wl_115, wl_116, wl_117, wl_118, wl_119, wl_120, wl_121, wl_122, wl_123, wl_124, wl_125, wl_126, wl_127, wl_128, wl_129, wl_130, wl_159, wl_160, wl_200, wl_232, wl_255, wl_256, wl_300, wl_359, wl_360, wl_400, wl_592, wl_992, wl_999, wl_1000, wl_1024, wl_3456, wl_6512, wl_7104, wl_10000, wl_11264, wl_12345, wl_32767, wl_1000000000, wl_1103515245, wl_2000000000, w_add, w_sub, w_mul, w_neg, w_lt, w_le, w_eq, w_cl, w_in, w_nat, w_max2, w_min2, w_abs2, iltT, iltF, ileT, ileF, ieqT, ieqF, bv_01, bft, bv_0, bv_1, bv_t, bv_f, cond_true, cond_false, Bool.not_true, Bool.not_false, if_true, if_false, true_or, or_true, true_and, and_true, ↓reduceIte, decide_true, decide_false, reduceCtorEq, u2_s, u2_o, u2_k, u2_u2, Bool.true_or, Bool.or_true, Bool.false_or, Bool.or_false, Bool.and_true, Bool.true_and, Bool.and_false, Bool.false_and, eq_self, not_true_eq_false, not_false_eq_true, and_self, and_true, true_and, false_and, and_false, w_dv, dvm, XSH_e hX, c, h5, hl, sp_36, u2_o, m]
    · refine ⟨_, ?_, ⟨g1 (w 1), Or.inr (by rw [u2_s]), fun q => by rw [u2_s] at q; rw [w_eq (by omega)] at q; omega⟩, g2 (w 1), g3 (w 1)⟩
      rw [eq_6]
      simp (disch := first | assumption | omega | (simp (disch := omega) only [vM_u, vS_u]; first | assumption | omega)) only [hK, hL, hR, hI, hN, sI, hSp, hC, hW, li, lr, ↓cnd_a, ↓cnd_o, ↓cnd_n, ↓cnd_d, ↓z0, ↓z1, ↓z2, y0n, y1i, y2r, y0e, y1e, y2e, wl_0, wl_1, wl_2, wl_3, wl_4, wl_5, wl_6, wl_7, wl_8, wl_9, wl_10, wl_11, wl_12, wl_13, wl_14, wl_15, wl_16, wl_17, wl_18, wl_19, wl_20, wl_21, wl_22, wl_23, wl_24, wl_25, wl_26, wl_27, wl_28, wl_29, wl_30, wl_31, wl_32, wl_33, wl_34, wl_35, wl_36, wl_37, wl_38, wl_39, wl_40, wl_41, wl_42, wl_43, wl_44, wl_45, wl_46, wl_47, wl_48, wl_49, wl_50, wl_51, wl_52, wl_53, wl_54, wl_55, wl_56, wl_57, wl_58, wl_59, wl_60, wl_61, wl_62, wl_63, wl_64, wl_65, wl_66, wl_67, wl_68, wl_69, wl_70, wl_71, wl_72, wl_73, wl_74, wl_75, wl_76, wl_77, wl_78, wl_79, wl_80, wl_81, wl_82, wl_83, wl_84, wl_85, wl_86, wl_87, wl_88, wl_89, wl_90, wl_91, wl_92, wl_93, wl_94, wl_95, wl_96, wl_97, wl_98, wl_99, wl_100, wl_101, wl_102, wl_103, wl_104, wl_105, wl_106, wl_107, wl_108, wl_109, wl_110, wl_111, wl_112, wl_113, wl_114, wl_115, wl_116, wl_117, wl_118, wl_119, wl_120, wl_121, wl_122, wl_123, wl_124, wl_125, wl_126, wl_127, wl_128, wl_129, wl_130, wl_159, wl_160, wl_200, wl_232, wl_255, wl_256, wl_300, wl_359, wl_360, wl_400, wl_592, wl_992, wl_999, wl_1000, wl_1024, wl_3456, wl_6512, wl_7104, wl_10000, wl_11264, wl_12345, wl_32767, wl_1000000000, wl_1103515245, wl_2000000000, w_add, w_sub, w_mul, w_neg, w_lt, w_le, w_eq, w_cl, w_in, w_nat, w_max2, w_min2, w_abs2, iltT, iltF, ileT, ileF, ieqT, ieqF, bv_01, bft, bv_0, bv_1, bv_t, bv_f, cond_true, cond_false, Bool.not_true, Bool.not_false, if_true, if_false, true_or, or_true, true_and, and_true, ↓reduceIte, decide_true, decide_false, reduceCtorEq, u2_s, u2_o, u2_k, u2_u2, Bool.true_or, Bool.or_true, Bool.false_or, Bool.or_false, Bool.and_true, Bool.true_and, Bool.and_false, Bool.false_and, eq_self, not_true_eq_false, not_false_eq_true, and_self, and_true, true_and, false_and, and_false, w_dv, dvm, XSH_e hX, c, h5, u2_o]
/-- the law is reckoned where it must be -/
theorem sp_12 {d : Nat} {ss : List Int} {ln : Int} (hX : XSH K L R) (hA : AimOK K L R I ss ln) :
    ∃ I', ev PR (d + 4) 12 [.ref 273] (((vn, vc, vw, K, L, R), I, J) : HS) = some (.inl none, (((vn, vc, vw, K, L, R), I', J) : HS)) ∧ AimOK K L R I' ss ln ∧ I' 273 5 = w 0 ∧ (∀ j, I' 274 j = I 274 j) ∧ FAim I I' := by
  obtain ⟨gL, h5, hs⟩ := hA
  rcases h5 with h5 | h5
  · refine ⟨I, ?_, ⟨gL, Or.inl h5, hs⟩, h5, fun _ => rfl, FAim_rf⟩
    rw [eq_12]
    simp (disch := first | assumption | omega | (simp (disch := omega) only [vM_u, vS_u]; first | assumption | omega)) only [hK, hL, hR, hI, hN, sI, hSp, hC, hW, li, lr, ↓cnd_a, ↓cnd_o, ↓cnd_n, ↓cnd_d, ↓z0, ↓z1, ↓z2, y0n, y1i, y2r, y0e, y1e, y2e, wl_0, wl_1, wl_2, wl_3, wl_4, wl_5, wl_6, wl_7, wl_8, wl_9, wl_10, wl_11, wl_12, wl_13, wl_14, wl_15, wl_16, wl_17, wl_18, wl_19, wl_20, wl_21, wl_22, wl_23, wl_24, wl_25, wl_26, wl_27, wl_28, wl_29, wl_30, wl_31, wl_32, wl_33, wl_34, wl_35, wl_36, wl_37, wl_38, wl_39, wl_40, wl_41, wl_42, wl_43, wl_44, wl_45, wl_46, wl_47, wl_48, wl_49, wl_50, wl_51, wl_52, wl_53, wl_54, wl_55, wl_56, wl_57, wl_58, wl_59, wl_60, wl_61, wl_62, wl_63, wl_64, wl_65, wl_66, wl_67, wl_68, wl_69, wl_70, wl_71, wl_72, wl_73, wl_74, wl_75, wl_76, wl_77, wl_78, wl_79, wl_80, wl_81, wl_82, wl_83, wl_84, wl_85, wl_86, wl_87, wl_88, wl_89, wl_90, wl_91, wl_92, wl_93, wl_94, wl_95, wl_96, wl_97, wl_98, wl_99, wl_100, wl_101, wl_102, wl_103, wl_104, wl_105, wl_106, wl_107, wl_108, wl_109, wl_110, wl_111, wl_112, wl_113, wl_114, wl_115, wl_116, wl_117, wl_118, wl_119, wl_120, wl_121, wl_122, wl_123, wl_124, wl_125, wl_126, wl_127, wl_128, wl_129, wl_130, wl_159, wl_160, wl_200, wl_232, wl_255, wl_256, wl_300, wl_359, wl_360, wl_400, wl_592, wl_992, wl_999, wl_1000, wl_1024, wl_3456, wl_6512, wl_7104, wl_10000, wl_11264, wl_12345, wl_32767, wl_1000000000, wl_1103515245, wl_2000000000, w_add, w_sub, w_mul, w_neg, w_lt, w_le, w_eq, w_cl, w_in, w_nat, w_max2, w_min2, w_abs2, iltT, iltF, ileT, ileF, ieqT, ieqF, bv_01, bft, bv_0, bv_1, bv_t, bv_f, cond_true, cond_false, Bool.not_true, Bool.not_false, if_true, if_false, true_or, or_true, true_and, and_true, ↓reduceIte, decide_true, decide_false, reduceCtorEq, u2_s, u2_o, u2_k, u2_u2, Bool.true_or, Bool.or_true, Bool.false_or, Bool.or_false, Bool.and_true, Bool.true_and, Bool.and_false, Bool.false_and, eq_self, not_true_eq_false, not_false_eq_true, and_self, and_true, true_and, false_and, and_false, w_dv, dvm, XSH_e hX, h5]
  · have hl := gL.1.1
    have hll := gL.2.2.1
    obtain ⟨I1, e1, g1, g2⟩ := sp_337 (d := d + 2) (I := u2 I 273 5 (w 0)) (J := J) (vn := vn) (vc := vc) (vw := vw) (R := R) (v := w 0) (a := 275) (n := 6) (XSH_e hX).2.2.2.2.2.2.2.2.2.2.2.2.2.2.2.2.2.1.2.2.1.2.1 (XSH_e hX).2.2.2.2.2.2.2.2.2.2.2.2.2.2.2.2.2.1.2.2.1.2.2 (by omega)
    have q1 : ∀ a b, a ≠ 275 → ¬(a = 273 ∧ b = 5) → I1 a b = I a b := fun a b h1 h2 => by rw [g2 a b h1, u2_r, if_neg h2]
    have q5 : I1 273 5 = w 0 := by rw [g2 _ _ (by decide), u2_s]
    have hL1 : ALaw K L R I1 (R 273 4) ss ln := ALaw_f gL (fun a b hab => q1 a b (by omega) (by omega)) rfl
    have lln : I1 (R 273 4) 0 = w ln := hL1.2.2.1.2.1
    have s1 : SuR I1 (fun _ => 0) := fun k h1 h2 => g1 (ix k) (by unfold ix; omega)
    have fin : ∀ I2 : Nat → Nat → Int32, FA I1 I2 → SuR I2 (sy0 ln) → ∃ I', atv PR (d + 3) cd_12 24 [.ref 273, .int (w 0), .retAddr 0] [] (((vn, vc, vw, K, L, R), u2 I2 273 3 (w 0), J) : HS) = some (.inl none, (((vn, vc, vw, K, L, R), I', J) : HS)) ∧ AimOK K L R I' ss ln ∧ I' 273 5 = w 0 ∧ (∀ j, I' 274 j = I 274 j) ∧ FAim I I' := fun I2 f2 s2 => by
      have f3 : FA I1 (u2 I2 273 3 (w 0)) := FA_tr f2 (FA_u (by omega))
      have hF : ∀ j : Nat, u2 I2 273 3 (w 0) 274 j = I 274 j := fun j => by rw [f3 274 j (by decide) (by decide) (fun q => by cases q), q1 _ _ (by decide) (fun q => by cases q.1)]
      obtain ⟨I', e, u, f⟩ := lp_12 (d := d) (J := J) (vn := vn) (vc := vc) (vw := vw) (F := fun n => I 274 (ix n)) hX ss.length 0 (.retAddr 0) (u2 I2 273 3 (w 0)) [] (sy0 ln) (by omega) (by omega) (ALaw_f hL1 (fun a b hab => f3 a b (by omega) (by omega) (by omega)) rfl) ⟨by rw [u2_s]; rfl, fun i hi => by cases hi⟩ (fun k h1 h2 => by rw [u2_o _ _ _ _ (by decide)]; exact s2 k h1 h2) gL.2.2.2.2.2.1 (fun j => hF j)
      have f4 := FA_tr f3 f
      have e5 : I' 273 5 = w 0 := by rw [f4 273 5 (by decide) (by decide) (fun _ => by decide), q5]
      have e4 : ∀ j, I' 274 j = I 274 j := fun j => by rw [f4 274 j (by decide) (by decide) (fun q => by cases q), q1 _ _ (by decide) (fun q => by cases q.1)]
      refine ⟨I', e, ⟨ALaw_f hL1 (fun a b hab => f4 a b (by omega) (by omega) (by omega)) rfl, Or.inl e5, fun _ => ?_⟩, e5, e4, fun a b hab => by rw [f4 a b (by omega) (by omega) (by omega), q1 a b (by omega) (by omega)]⟩
      have ee : (fun n => I' 274 (ix n)) = (fun n => I 274 (ix n)) := funext fun n => e4 _
      rw [ee]
      exact u
    rw [eq_12]
    by_cases c : ln < 0
    · have s15 := sp_15 (d := d + 2) (J := J) (vn := vn) (vc := vc) (vw := vw) (I := I1) (k := 4) (z := 2) hX (by omega) s1
      have s2 := SuR_add (k := 4) (z := 2) (by omega) s1
      have s3 : SuR (u2 I1 275 (ix 4) (w (0 + 2))) (sy0 ln) := fun k h1 h2 => by
        rw [s2 k h1 h2]
        show w (if k = 4 then 0 + 2 else 0) = w (sy0 ln k)
        unfold sy0
        by_cases q : k = 4
        · subst q; rw [if_pos rfl, if_pos ⟨c, rfl⟩]; rfl
        · rw [if_neg q, if_neg (fun z => q z.2)]
      obtain ⟨I', e, r⟩ := fin _ (FA_u (by omega)) s3
      refine ⟨I', ?_, r⟩
      simp (disch := first | assumption | omega | (simp (disch := omega) only [vM_u, vS_u]; first | assumption | omega)) only [hK, hL, hR, hI, hN, sI, hSp, hC, hW, li, lr, ↓cnd_a, ↓cnd_o, ↓cnd_n, ↓cnd_d, ↓z0, ↓z1, ↓z2, y0n, y1i, y2r, y0e, y1e, y2e, wl_0, wl_1, wl_2, wl_3, wl_4, wl_5, wl_6, wl_7, wl_8, wl_9, wl_10, wl_11, wl_12, wl_13, wl_14, wl_15, wl_16, wl_17, wl_18, wl_19, wl_20, wl_21, wl_22, wl_23, wl_24, wl_25, wl_26, wl_27, wl_28, wl_29, wl_30, wl_31, wl_32, wl_33, wl_34, wl_35, wl_36, wl_37, wl_38, wl_39, wl_40, wl_41, wl_42, wl_43, wl_44, wl_45, wl_46, wl_47, wl_48, wl_49, wl_50, wl_51, wl_52, wl_53, wl_54, wl_55, wl_56, wl_57, wl_58, wl_59, wl_60, wl_61, wl_62, wl_63, wl_64, wl_65, wl_66, wl_67, wl_68, wl_69, wl_70, wl_71, wl_72, wl_73, wl_74, wl_75, wl_76, wl_77, wl_78, wl_79, wl_80, wl_81, wl_82, wl_83, wl_84, wl_85, wl_86, wl_87, wl_88, wl_89, wl_90, wl_91, wl_92, wl_93, wl_94, wl_95, wl_96, wl_97, wl_98, wl_99, wl_100, wl_101, wl_102, wl_103, wl_104, wl_105, wl_106, wl_107, wl_108, wl_109, wl_110, wl_111, wl_112, wl_113, wl_114, wl_115, wl_116, wl_117, wl_118, wl_119, wl_120, wl_121, wl_122, wl_123, wl_124, wl_125, wl_126, wl_127, wl_128, wl_129, wl_130, wl_159, wl_160, wl_200, wl_232, wl_255, wl_256, wl_300, wl_359, wl_360, wl_400, wl_592, wl_992, wl_999, wl_1000, wl_1024, wl_3456, wl_6512, wl_7104, wl_10000, wl_11264, wl_12345, wl_32767, wl_1000000000, wl_1103515245, wl_2000000000, w_add, w_sub, w_mul, w_neg, w_lt, w_le, w_eq, w_cl, w_in, w_nat, w_max2, w_min2, w_abs2, iltT, iltF, ileT, ileF, ieqT, ieqF, bv_01, bft, bv_0, bv_1, bv_t, bv_f, cond_true, cond_false, Bool.not_true, Bool.not_false, if_true, if_false, true_or, or_true, true_and, and_true, ↓reduceIte, decide_true, decide_false, reduceCtorEq, u2_s, u2_o, u2_k, u2_u2, Bool.true_or, Bool.or_true, Bool.false_or, Bool.or_false, Bool.and_true, Bool.true_and, Bool.and_false, Bool.false_and, eq_self, not_true_eq_false, not_false_eq_true, and_self, and_true, true_and, false_and, and_false, w_dv, dvm, XSH_e hX, h5, e1, eq_33, hl, lln, s15]
      exact e
    · have s3 : SuR I1 (sy0 ln) := fun k h1 h2 => by
        rw [s1 k h1 h2]
        unfold sy0
        rw [if_neg (fun z => c z.1)]
      obtain ⟨I', e, r⟩ := fin _ FA_rf s3
      refine ⟨I', ?_, r⟩
      simp (disch := first | assumption | omega | (simp (disch := omega) only [vM_u, vS_u]; first | assumption | omega)) only [hK, hL, hR, hI, hN, sI, hSp, hC, hW, li, lr, ↓cnd_a, ↓cnd_o, ↓cnd_n, ↓cnd_d, ↓z0, ↓z1, ↓z2, y0n, y1i, y2r, y0e, y1e, y2e, wl_0, wl_1, wl_2, wl_3, wl_4, wl_5, wl_6, wl_7, wl_8, wl_9, wl_10, wl_11, wl_12, wl_13, wl_14, wl_15, wl_16, wl_17, wl_18, wl_19, wl_20, wl_21, wl_22, wl_23, wl_24, wl_25, wl_26, wl_27, wl_28, wl_29, wl_30, wl_31, wl_32, wl_33, wl_34, wl_35, wl_36, wl_37, wl_38, wl_39, wl_40, wl_41, wl_42, wl_43, wl_44, wl_45, wl_46, wl_47, wl_48, wl_49, wl_50, wl_51, wl_52, wl_53, wl_54, wl_55, wl_56, wl_57, wl_58, wl_59, wl_60, wl_61, wl_62, wl_63, wl_64, wl_65, wl_66, wl_67, wl_68, wl_69, wl_70, wl_71, wl_72, wl_73, wl_74, wl_75, wl_76, wl_77, wl_78, wl_79, wl_80, wl_81, wl_82, wl_83, wl_84, wl_85, wl_86, wl_87, wl_88, wl_89, wl_90, wl_91, wl_92, wl_93, wl_94, wl_95, wl_96, wl_97, wl_98, wl_99, wl_100, wl_101, wl_102, wl_103, wl_104, wl_105, wl_106, wl_107, wl_108, wl_109, wl_110, wl_111, wl_112, wl_113, wl_114, wl_115, wl_116, wl_117, wl_118, wl_119, wl_120, wl_121, wl_122, wl_123, wl_124, wl_125, wl_126, wl_127, wl_128, wl_129, wl_130, wl_159, wl_160, wl_200, wl_232, wl_255, wl_256, wl_300, wl_359, wl_360, wl_400, wl_592, wl_992, wl_999, wl_1000, wl_1024, wl_3456, wl_6512, wl_7104, wl_10000, wl_11264, wl_12345, wl_32767, wl_1000000000, wl_1103515245, wl_2000000000, w_add, w_sub, w_mul, w_neg, w_lt, w_le, w_eq, w_cl, w_in, w_nat, w_max2, w_min2, w_abs2, iltT, iltF, ileT, ileF, ieqT, ieqF, bv_01, bft, bv_0, bv_1, bv_t, bv_f, cond_true, cond_false, Bool.not_true, Bool.not_false, if_true, if_false, true_or, or_true, true_and, and_true, ↓reduceIte, decide_true, decide_false, reduceCtorEq, u2_s, u2_o, u2_k, u2_u2, Bool.true_or, Bool.or_true, Bool.false_or, Bool.or_false, Bool.and_true, Bool.true_and, Bool.and_false, Bool.false_and, eq_self, not_true_eq_false, not_false_eq_true, and_self, and_true, true_and, false_and, and_false, w_dv, dvm, XSH_e hX, h5, e1, eq_33, hl, lln]
      exact e
theorem XSH_u (hX : XSH K L R) (v : Nat) : XSH K L (u2 R 273 4 v) := by
  unfold XSH at *
  simp (disch := omega) only [u2_o, u2_k]
  exact hX
theorem SHq_u {q v : Nat} (hS : SHq K L R q) (hq : q + 11 < 273) : SHq K L (u2 R 273 4 v) q := by
  unfold SHq at *
  simp (disch := omega) only [u2_o, u2_k]
  exact hS
/-- one stands at the rope -/
theorem sp_1 {d q : Nat} {ss ss' : List Int} {ln ln' p h f : Int} (hX : XSH K L R) (hS : SHq K L R q) (hq : q + 11 < 273) (hWd : Wd I q) (hB : BD (vS I q)) (hA : AimOK K L R I ss ln) (gL : ALaw K L R I (R q 10) ss' ln') (hp : 0 ≤ p ∧ p < vS I q 5) (hh : 0 ≤ h ∧ h < vS I q 4) :
    ∃ I', ev PR (d + 3) 1 [.ref 273, .ref q, .int (w p), .int (w h), .int (w f)] (((vn, vc, vw, K, L, R), I, J) : HS) = some (.inl none, (((vn, vc, vw, K, L, u2 R 273 4 (R q 10)), I', J) : HS)) ∧ AimOK K L (u2 R 273 4 (R q 10)) I' ss' ln' ∧
      (I' 274 0 = w p ∧ I' 274 1 = w h ∧ I' 274 2 = w f ∧ I' 274 3 = I 274 3 ∧ I' 274 4 = I 274 4 ∧ I' 274 5 = w (pe (vS I q) p 0) ∧ I' 274 6 = w (pe (vS I q) p 1) ∧ I' 274 7 = w (ho (vS I q) h 2)) ∧ FAim I I' := by
  obtain ⟨h3, h4, h5, h6, h7, h8, h9, h13, h14, hbk, hhp, hpp⟩ := id hB
  have hX' := XSH_u hX (R q 10)
  have hS' : SHq K L (u2 R 273 4 (R q 10)) q := SHq_u hS hq
  have gl := gL.1.1
  have al := hA.1.1.1
  have key : ∀ t : Bool, (t = false → I 273 5 = w 0 ∧ R 273 4 = R q 10) → ∃ I', atv PR (d + 2) cd_1 12 [.ref 273, .ref q, .int (w p), .int (w h), .int (w f)] [.int (bv t), .ref 273] (((vn, vc, vw, K, L, R), I, J) : HS) = some (.inl none, (((vn, vc, vw, K, L, u2 R 273 4 (R q 10)), I', J) : HS)) ∧ AimOK K L (u2 R 273 4 (R q 10)) I' ss' ln' ∧
      (I' 274 0 = w p ∧ I' 274 1 = w h ∧ I' 274 2 = w f ∧ I' 274 3 = I 274 3 ∧ I' 274 4 = I 274 4 ∧ I' 274 5 = w (pe (vS I q) p 0) ∧ I' 274 6 = w (pe (vS I q) p 1) ∧ I' 274 7 = w (ho (vS I q) h 2)) ∧ FAim I I' := by
    intro t ht
    have A0 : AimOK K L (u2 R 273 4 (R q 10)) (u2 I 273 5 (bv t)) ss' ln' := by
      refine ⟨?_, by rw [u2_s]; cases t; exact Or.inl rfl; exact Or.inr rfl, fun q0 => ?_⟩
      · rw [u2_s]
        exact ALaw_f gL (fun a b hab => by rw [u2_o _ _ _ _ (by omega)]) (by rw [u2_o _ _ _ _ (by have := gL.2.1.1; omega)])
      · rw [u2_s, bv_0] at q0
        obtain ⟨z1, z2⟩ := ht q0
        have gL2 := gL
        rw [← z2] at gL2
        obtain ⟨rfl, rfl⟩ := ALaw_q gL2 hA.1
        have := hA.2.2 z1
        intro k k1 k2
        rw [u2_o _ _ _ _ (by decide)]
        have ee : (fun n => u2 I 273 5 (bv t) 274 (ix n)) = (fun n => I 274 (ix n)) := funext fun n => by rw [u2_o _ _ _ _ (by decide)]
        rw [ee]
        exact this k k1 k2
    obtain ⟨I1, e1, A1, g1, f1⟩ := sp_6 (d := d) (J := J) (vn := vn) (vc := vc) (vw := vw) (k := 0) (v := w p) hX' A0 (by omega)
    obtain ⟨I2, e2, A2, g2, f2⟩ := sp_6 (d := d) (J := J) (vn := vn) (vc := vc) (vw := vw) (k := 1) (v := w h) hX' A1 (by omega)
    obtain ⟨I3, e3, A3, g3, f3⟩ := sp_6 (d := d) (J := J) (vn := vn) (vc := vc) (vw := vw) (k := 2) (v := w f) hX' A2 (by omega)
    have F3 : FAim I I3 := FAim_tr (FAim_tr (FAim_tr (FAim_u (by omega)) f1) f2) f3
    have v3 : vS I3 q = vS I q := vS_f (fun a b h1 h2 => F3 a b (by omega))
    have w3 : Wd I3 q := Wd_f (fun a b h1 h2 => F3 a b (by omega)) hWd
    obtain ⟨I4, e4, A4, g4, f4⟩ := sp_6 (d := d) (J := J) (vn := vn) (vc := vc) (vw := vw) (k := 5) (v := w (pe (vS I q) p 0)) hX' A3 (by omega)
    have F4 := FAim_tr F3 f4
    have v4 : vS I4 q = vS I q := vS_f (fun a b h1 h2 => F4 a b (by omega))
    have w4 : Wd I4 q := Wd_f (fun a b h1 h2 => F4 a b (by omega)) hWd
    obtain ⟨I5, e5, A5, g5, f5⟩ := sp_6 (d := d) (J := J) (vn := vn) (vc := vc) (vw := vw) (k := 6) (v := w (pe (vS I q) p 1)) hX' A4 (by omega)
    have F5 := FAim_tr F4 f5
    have v5 : vS I5 q = vS I q := vS_f (fun a b h1 h2 => F5 a b (by omega))
    have w5 : Wd I5 q := Wd_f (fun a b h1 h2 => F5 a b (by omega)) hWd
    obtain ⟨I6, e6, A6, g6, f6⟩ := sp_6 (d := d) (J := J) (vn := vn) (vc := vc) (vw := vw) (k := 7) (v := w (ho (vS I q) h 2)) hX' A5 (by omega)
    have r3 := sp_96p (d := d + 1) (J := J) (vn := vn) (vc := vc) (vw := vw) (I := I3) (b := p) (j := 0) hS' w3 (by rw [v3]; omega)
    have r4 := sp_96p (d := d + 1) (J := J) (vn := vn) (vc := vc) (vw := vw) (I := I4) (b := p) (j := 1) hS' w4 (by rw [v4]; omega)
    have r5 := sp_96h (d := d + 1) (J := J) (vn := vn) (vc := vc) (vw := vw) (I := I5) (b := h) (j := 2) hS' w5 (by rw [v5]; omega)
    rw [v3] at r3
    rw [v4] at r4
    rw [v5] at r5
    refine ⟨I6, ?_, A6, ?_, FAim_tr F5 f6⟩
    · rw [eq_1_12]
      simp (disch := first | assumption | omega | (simp (disch := omega) only [vM_u, vS_u]; first | assumption | omega)) only [hK, hL, hR, hI, hN, sI, hSp, hC, hW, li, lr, ↓cnd_a, ↓cnd_o, ↓cnd_n, ↓cnd_d, ↓z0, ↓z1, ↓z2, y0n, y1i, y2r, y0e, y1e, y2e, wl_0, wl_1, wl_2, wl_3, wl_4, wl_5, wl_6, wl_7, wl_8, wl_9, wl_10, wl_11, wl_12, wl_13, wl_14, wl_15, wl_16, wl_17, wl_18, wl_19, wl_20, wl_21, wl_22, wl_23, wl_24, wl_25, wl_26, wl_27, wl_28, wl_29, wl_30, wl_31, wl_32, wl_33, wl_34, wl_35, wl_36, wl_37, wl_38, wl_39, wl_40, wl_41, wl_42, wl_43, wl_44, wl_45, wl_46, wl_47, wl_48, wl_49, wl_50, wl_51, wl_52, wl_53, wl_54, wl_55, wl_56, wl_57, wl_58, wl_59, wl_60, wl_61, wl_62, wl_63, wl_64, wl_65, wl_66, wl_67, wl_68, wl_69, wl_70, wl_71, wl_72, wl_73, wl_74, wl_75, wl_76, wl_77, wl_78, wl_79, wl_80, wl_81, wl_82, wl_83, wl_84, wl_85, wl_86, wl_87, wl_88, wl_89, wl_90, wl_91, wl_92, wl_93, wl_94, wl_95, wl_96, wl_97, wl_98, wl_99, wl_100, wl_101, wl_102, wl_103, wl_104, wl_105, wl_106, wl_107, wl_108, wl_109, wl_110, wl_111, wl_112, wl_113, wl_114, wl_115, wl_116, wl_117, wl_118, wl_119, wl_120, wl_121, wl_122, wl_123, wl_124, wl_125, wl_126, wl_127, wl_128, wl_129, wl_130, wl_159, wl_160, wl_200, wl_232, wl_255, wl_256, wl_300, wl_359, wl_360, wl_400, wl_592, wl_992, wl_999, wl_1000, wl_1024, wl_3456, wl_6512, wl_7104, wl_10000, wl_11264, wl_12345, wl_32767, wl_1000000000, wl_1103515245, wl_2000000000, w_add, w_sub, w_mul, w_neg, w_lt, w_le, w_eq, w_cl, w_in, w_nat, w_max2, w_min2, w_abs2, iltT, iltF, ileT, ileF, ieqT, ieqF, bv_01, bft, bv_0, bv_1, bv_t, bv_f, cond_true, cond_false, Bool.not_true, Bool.not_false, if_true, if_false, true_or, or_true, true_and, and_true, ↓reduceIte, decide_true, decide_false, reduceCtorEq, u2_s, u2_o, u2_k, u2_u2, Bool.true_or, Bool.or_true, Bool.false_or, Bool.or_false, Bool.and_true, Bool.true_and, Bool.and_false, Bool.false_and, eq_self, not_true_eq_false, not_false_eq_true, and_self, and_true, true_and, false_and, and_false, w_dv, dvm, XSH_e hX, SHq_e hS, sR, XSH_e hX', SHq_e hS', e1, e2, e3, r3, e4, r4, e5, r5, e6]
    · have ei : ∀ (a b : Nat), (a = ix b) = (a = b) := fun a b => by rw [ix_nat]
      have z : ∀ n : Nat, n = ix (n : Int) := fun n => (ix_nat n).symm
      simp only [g6, g5, g4, g3, g2, g1, show ix 0 = 0 from rfl, show ix 1 = 1 from rfl, show ix 2 = 2 from rfl, show ix 5 = 5 from rfl, show ix 6 = 6 from rfl, show ix 7 = 7 from rfl]
      exact ⟨rfl, rfl, rfl, rfl, rfl, rfl, rfl, rfl⟩
  rw [eq_1]
  rcases hA.2.1 with h5' | h5'
  · by_cases c : R 273 4 = R q 10
    · obtain ⟨I', e, r⟩ := key false (fun _ => ⟨h5', c⟩)
      refine ⟨I', ?_, r⟩
      simp (disch := first | assumption | omega | (simp (disch := omega) only [vM_u, vS_u]; first | assumption | omega)) only [hK, hL, hR, hI, hN, sI, hSp, hC, hW, li, lr, ↓cnd_a, ↓cnd_o, ↓cnd_n, ↓cnd_d, ↓z0, ↓z1, ↓z2, y0n, y1i, y2r, y0e, y1e, y2e, wl_0, wl_1, wl_2, wl_3, wl_4, wl_5, wl_6, wl_7, wl_8, wl_9, wl_10, wl_11, wl_12, wl_13, wl_14, wl_15, wl_16, wl_17, wl_18, wl_19, wl_20, wl_21, wl_22, wl_23, wl_24, wl_25, wl_26, wl_27, wl_28, wl_29, wl_30, wl_31, wl_32, wl_33, wl_34, wl_35, wl_36, wl_37, wl_38, wl_39, wl_40, wl_41, wl_42, wl_43, wl_44, wl_45, wl_46, wl_47, wl_48, wl_49, wl_50, wl_51, wl_52, wl_53, wl_54, wl_55, wl_56, wl_57, wl_58, wl_59, wl_60, wl_61, wl_62, wl_63, wl_64, wl_65, wl_66, wl_67, wl_68, wl_69, wl_70, wl_71, wl_72, wl_73, wl_74, wl_75, wl_76, wl_77, wl_78, wl_79, wl_80, wl_81, wl_82, wl_83, wl_84, wl_85, wl_86, wl_87, wl_88, wl_89, wl_90, wl_91, wl_92, wl_93, wl_94, wl_95, wl_96, wl_97, wl_98, wl_99, wl_100, wl_101, wl_102, wl_103, wl_104, wl_105, wl_106, wl_107, wl_108, wl_109, wl_110, wl_111, wl_112, wl_113, wl_114, wl_115, wl_116, wl_117, wl_118, wl_119, wl_120, wl_121, wl_122, wl_123, wl_124, wl_125, wl_126, wl_127, wl_128, wl_129, wl_130, wl_159, wl_160, wl_200, wl_232, wl_255, wl_256, wl_300, wl_359, wl_360, wl_400, wl_592, wl_992, wl_999, wl_1000, wl_1024, wl_3456, wl_6512, wl_7104, wl_10000, wl_11264, wl_12345, wl_32767, wl_1000000000, wl_1103515245, wl_2000000000, w_add, w_sub, w_mul, w_neg, w_lt, w_le, w_eq, w_cl, w_in, w_nat, w_max2, w_min2, w_abs2, iltT, iltF, ileT, ileF, ieqT, ieqF, bv_01, bft, bv_0, bv_1, bv_t, bv_f, cond_true, cond_false, Bool.not_true, Bool.not_false, if_true, if_false, true_or, or_true, true_and, and_true, ↓reduceIte, decide_true, decide_false, reduceCtorEq, u2_s, u2_o, u2_k, u2_u2, Bool.true_or, Bool.or_true, Bool.false_or, Bool.or_false, Bool.and_true, Bool.true_and, Bool.and_false, Bool.false_and, eq_self, not_true_eq_false, not_false_eq_true, and_self, and_true, true_and, false_and, and_false, w_dv, dvm, XSH_e hX, SHq_e hS, h5', al, gl, c]
      exact e
    · obtain ⟨I', e, r⟩ := key true (fun q => by cases q)
      refine ⟨I', ?_, r⟩
      simp (disch := first | assumption | omega | (simp (disch := omega) only [vM_u, vS_u]; first | assumption | omega)) only [hK, hL, hR, hI, hN, sI, hSp, hC, hW, li, lr, ↓cnd_a, ↓cnd_o, ↓cnd_n, ↓cnd_d, ↓z0, ↓z1, ↓z2, y0n, y1i, y2r, y0e, y1e, y2e, wl_0, wl_1, wl_2, wl_3, wl_4, wl_5, wl_6, wl_7, wl_8, wl_9, wl_10, wl_11, wl_12, wl_13, wl_14, wl_15, wl_16, wl_17, wl_18, wl_19, wl_20, wl_21, wl_22, wl_23, wl_24, wl_25, wl_26, wl_27, wl_28, wl_29, wl_30, wl_31, wl_32, wl_33, wl_34, wl_35, wl_36, wl_37, wl_38, wl_39, wl_40, wl_41, wl_42, wl_43, wl_44, wl_45, wl_46, wl_47, wl_48, wl_49, wl_50, wl_51, wl_52, wl_53, wl_54, wl_55, wl_56, wl_57, wl_58, wl_59, wl_60, wl_61, wl_62, wl_63, wl_64, wl_65, wl_66, wl_67, wl_68, wl_69, wl_70, wl_71, wl_72, wl_73, wl_74, wl_75, wl_76, wl_77, wl_78, wl_79, wl_80, wl_81, wl_82, wl_83, wl_84, wl_85, wl_86, wl_87, wl_88, wl_89, wl_90, wl_91, wl_92, wl_93, wl_94, wl_95, wl_96, wl_97, wl_98, wl_99, wl_100, wl_101, wl_102, wl_103, wl_104, wl_105, wl_106, wl_107, wl_108, wl_109, wl_110, wl_111, wl_112, wl_113, wl_114, wl_115, wl_116, wl_117, wl_118, wl_119, wl_120, wl_121, wl_122, wl_123, wl_124, wl_125, wl_126, wl_127, wl_128, wl_129, wl_130, wl_159, wl_160, wl_200, wl_232, wl_255, wl_256, wl_300, wl_359, wl_360, wl_400, wl_592, wl_992, wl_999, wl_1000, wl_1024, wl_3456, wl_6512, wl_7104, wl_10000, wl_11264, wl_12345, wl_32767, wl_1000000000, wl_1103515245, wl_2000000000, w_add, w_sub, w_mul, w_neg, w_lt, w_le, w_eq, w_cl, w_in, w_nat, w_max2, w_min2, w_abs2, iltT, iltF, ileT, ileF, ieqT, ieqF, bv_01, bft, bv_0, bv_1, bv_t, bv_f, cond_true, cond_false, Bool.not_true, Bool.not_false, if_true, if_false, true_or, or_true, true_and, and_true, ↓reduceIte, decide_true, decide_false, reduceCtorEq, u2_s, u2_o, u2_k, u2_u2, Bool.true_or, Bool.or_true, Bool.false_or, Bool.or_false, Bool.and_true, Bool.true_and, Bool.and_false, Bool.false_and, eq_self, not_true_eq_false, not_false_eq_true, and_self, and_true, true_and, false_and, and_false, w_dv, dvm, XSH_e hX, SHq_e hS, h5', al, gl, c]
      exact e
  · obtain ⟨I', e, r⟩ := key true (fun q => by cases q)
    refine ⟨I', ?_, r⟩
    simp (disch := first | assumption | omega | (simp (disch := omega) only [vM_u, vS_u]; first | assumption | omega)) only [hK, hL, hR, hI, hN, sI, hSp, hC, hW, li, lr, ↓cnd_a, ↓cnd_o, ↓cnd_n, ↓cnd_d, ↓z0, ↓z1, ↓z2, y0n, y1i, y2r, y0e, y1e, y2e, wl_0, wl_1, wl_2, wl_3, wl_4, wl_5, wl_6, wl_7, wl_8, wl_9, wl_10, wl_11, wl_12, wl_13, wl_14, wl_15, wl_16, wl_17, wl_18, wl_19, wl_20, wl_21, wl_22, wl_23, wl_24, wl_25, wl_26, wl_27, wl_28, wl_29, wl_30, wl_31, wl_32, wl_33, wl_34, wl_35, wl_36, wl_37, wl_38, wl_39, wl_40, wl_41, wl_42, wl_43, wl_44, wl_45, wl_46, wl_47, wl_48, wl_49, wl_50, wl_51, wl_52, wl_53, wl_54, wl_55, wl_56, wl_57, wl_58, wl_59, wl_60, wl_61, wl_62, wl_63, wl_64, wl_65, wl_66, wl_67, wl_68, wl_69, wl_70, wl_71, wl_72, wl_73, wl_74, wl_75, wl_76, wl_77, wl_78, wl_79, wl_80, wl_81, wl_82, wl_83, wl_84, wl_85, wl_86, wl_87, wl_88, wl_89, wl_90, wl_91, wl_92, wl_93, wl_94, wl_95, wl_96, wl_97, wl_98, wl_99, wl_100, wl_101, wl_102, wl_103, wl_104, wl_105, wl_106, wl_107, wl_108, wl_109, wl_110, wl_111, wl_112, wl_113, wl_114, wl_115, wl_116, wl_117, wl_118, wl_119, wl_120, wl_121, wl_122, wl_123, wl_124, wl_125, wl_126, wl_127, wl_128, wl_129, wl_130, wl_159, wl_160, wl_200, wl_232, wl_255, wl_256, wl_300, wl_359, wl_360, wl_400, wl_592, wl_992, wl_999, wl_1000, wl_1024, wl_3456, wl_6512, wl_7104, wl_10000, wl_11264, wl_12345, wl_32767, wl_1000000000, wl_1103515245, wl_2000000000, w_add, w_sub, w_mul, w_neg, w_lt, w_le, w_eq, w_cl, w_in, w_nat, w_max2, w_min2, w_abs2, iltT, iltF, ileT, ileF, ieqT, ieqF, bv_01, bft, bv_0, bv_1, bv_t, bv_f, cond_true, cond_false, Bool.not_true, Bool.not_false, if_true, if_false, true_or, or_true, true_and, and_true, ↓reduceIte, decide_true, decide_false, reduceCtorEq, u2_s, u2_o, u2_k, u2_u2, Bool.true_or, Bool.or_true, Bool.false_or, Bool.or_false, Bool.and_true, Bool.true_and, Bool.and_false, Bool.false_and, eq_self, not_true_eq_false, not_false_eq_true, and_self, and_true, true_and, false_and, and_false, w_dv, dvm, XSH_e hX, SHq_e hS, h5']
    exact e
end AIM
