/-! the reference's throws aimed and tallied; all heights and paces -/
theorem RLaw_b {I : Nat → Nat → Int32} {ss : List Int} {ln : Int} (h : RLaw I ss ln) (F : Int → Int32) (k : Int) : 0 ≤ evS ss ln F k ∧ evS ss ln F k ≤ 758 := by
  obtain ⟨T, e, g1, g2, g3, g4, g5, g6, g7, g8⟩ := h
  have hx : wfS ss 0 ∧ cntL ss ≤ 12 := by
    by_cases c : ln ≤ 0
    · rw [g7 c]; exact ⟨by unfold wfS; omega, by unfold cntL; omega⟩
    · have := pLaw_x (g8 (by omega))
      exact ⟨this.2.1, this.2.2.1⟩
  have := exL_b (F := F) ss ([], sy0 ln) k (wfS_v hx.1)
  unfold evS
  have e : (([], sy0 ln) : List Int32 × (Int → Int)).2 k = sy0 ln k := rfl
  rw [e] at this
  have h0 : 0 ≤ sy0 ln k ∧ sy0 ln k ≤ 2 := by unfold sy0; split <;> omega
  omega
section RSK
variable {vn vc vw : Nat} {K L : Nat → Nat} {R : Nat → Nat → Nat} {I : Nat → Nat → Int32} {J : Nat → Nat → Int64}
def QR (K L : Nat → Nat) (R : Nat → Nat → Nat) (I : Nat → Nat → Int32) (m : Int → Int) (ss : List Int) (ln : Int) : Prop := MSH K L R ∧ SWA K L I ∧ RLaw I ss ln ∧ vM I = m ∧ BD m ∧ (I 287 15 = w 0 ∨ I 287 15 = w 1)
/-- what a query leaves alone in the reference -/
def FQ (I I' : Nat → Nat → Int32) : Prop := ∀ a k, (a < 287 ∨ (287 < a ∧ a < 293) ∨ 304 ≤ a ∨ (a = 287 ∧ (k < 9 ∨ k = 12))) → I' a k = I a k
theorem FQ_rf {I : Nat → Nat → Int32} : FQ I I := fun _ _ _ => rfl
theorem FQ_tr {I I1 I2 : Nat → Nat → Int32} (h : FQ I I1) (g : FQ I1 I2) : FQ I I2 := fun a k x => (g a k x).trans (h a k x)
theorem FQ_u {I : Nat → Nat → Int32} {a k : Nat} {v : Int32} (h : 293 ≤ a ∧ a ≤ 303) : FQ I (u2 I a k v) := fun x y z => by rw [u2_o _ _ _ _ (by omega)]
theorem QR_f {I I' : Nat → Nat → Int32} {m : Int → Int} {ss : List Int} {ln : Int} (h : FQ I I') (h15 : I' 287 15 = w 0 ∨ I' 287 15 = w 1) (g : QR K L R I m ss ln) : QR K L R I' m ss ln := by
  obtain ⟨g1, g2, g3, g4, g5, g6⟩ := g
  exact ⟨g1, SWA_f (fun a k x => h a k (by omega)) g2, RLaw_f (fun k _ => h _ _ (by omega)) g3, by rw [vM_f (fun k => h _ _ (by omega))]; exact g4, g5, h15⟩
theorem QR_u {I : Nat → Nat → Int32} {m : Int → Int} {ss : List Int} {ln : Int} {a k : Nat} {v : Int32} (h : 293 ≤ a ∧ a ≤ 303) (g : QR K L R I m ss ln) : QR K L R (u2 I a k v) m ss ln := QR_f (FQ_u h) (by rw [u2_o _ _ _ _ (by omega)]; exact g.2.2.2.2.2) g
theorem cnF_m {m : Int → Int} (hB : BD m) (h x y b : Int) : cnF m h x y b < m 3 ∨ cnF m h x y b = -1 := by
  have h3 := hB.1
  have f : ∀ (p : Int → Bool) (n : Nat) (k : Int), fnd p k n = -1 ∨ (k ≤ fnd p k n ∧ fnd p k n < k + n) := by
    intro p n
    induction n with
    | zero => intro k; exact Or.inl rfl
    | succ n ih =>
      intro k
      unfold fnd
      cases p k with
      | true => right; simp only [cond_true]; omega
      | false => simp only [cond_false]; have := ih (k + 1); omega
  have g : ∀ y, ovF m h x y b < m 3 ∨ ovF m h x y b = -1 := fun y => by
    unfold ovF
    have := f (ovW m (alX m h b) (alY m h b) x y) (m 3).toNat 0
    omega
  unfold cnF
  split
  · exact g _
  · exact g _
theorem cnt_0 {p : Int → Bool} (h : ∀ j, p j = false) : ∀ (n : Nat) (k : Int), cnt p k n = 0
  | 0, _ => rfl
  | n + 1, k => by
    unfold cnt
    rw [h k, cond_false, cnt_0 h n (k + 1)]
    rfl
theorem wyF_far {m : Int → Int} {h b X Y p j : Int} (hB : BD m) (hj : m 3 ≤ j) : wyF m h b X Y p j = 0 := by
  have h3 := hB.1
  unfold wyF
  refine sm_0 _ _ (fun x _ _ => cnt_0 (fun y => ?_) _ _)
  have := cnF_m hB h x y b
  exact decide_eq_false (by omega)
theorem aS_b {sy : Int → Int} {sk : Int} (h : 0 ≤ sy 4) (hs : 0 ≤ sk ∧ sk ≤ 99) : 0 ≤ aS sy sk ∧ aS sy sk ≤ 4 := by
  unfold aS
  omega
theorem gA_b {ss : List Int} {ln p h f sk th we hi pa : Int} (hb : ∀ k, 0 ≤ syA ss ln p h f hi pa sk th we k) (hs : 0 ≤ sk ∧ sk ≤ 99) : 1 ≤ gA ss ln p h f sk th we hi pa ∧ gA ss ln p h f sk th we hi pa ≤ 81 := by
  have h1 := aS_b (sy := syA ss ln p h f hi pa sk th we) (hb 4) hs
  unfold gA gSy
  obtain ⟨s, hs⟩ : ∃ s, s = aS (syA ss ln p h f hi pa sk th we) sk := ⟨_, rfl⟩
  rw [← hs] at h1 ⊢
  have : s = 0 ∨ s = 1 ∨ s = 2 ∨ s = 3 ∨ s = 4 := by omega
  rcases this with rfl | rfl | rfl | rfl | rfl <;> omega
theorem rt_1 {d : Nat} {m : Int → Int} {ss : List Int} {ln p h f hi pa t sk th we : Int} (hQ : QR K L R I m ss ln) (hp : 0 ≤ p ∧ p < m 5) (hh : 0 ≤ h ∧ h < m 4) (hf : (0 ≤ f ∧ f ≤ 59) ∧ 0 ≤ pa ∧ pa ≤ 11) (ht : 0 ≤ t ∧ t ≤ 1000) (e1 : sk = min 99 (pe m p 0 + t)) (e2 : th = pe m p 1 + t) (e3 : we = ho m h 2) :
    ∃ I1 I', ev PR (d + 34) 259 [.ref 287, .int (w p), .int (w h), .int (w f), .int (w hi), .int (w pa), .int (w t)] (((vn, vc, vw, K, L, R), I, J) : HS) = some (.inl none, (((vn, vc, vw, K, L, R), I1, J) : HS)) ∧ ev PR (d + 34) 267 [.ref 287, .int (w h)] (((vn, vc, vw, K, L, R), I1, J) : HS) = some (.inl (some (.int (w (gA ss ln p h f sk th we hi pa)))), (((vn, vc, vw, K, L, R), I', J) : HS)) ∧ FQ I I' ∧ QR K L R I' m ss ln ∧ (∀ j : Nat, j < 10 → I' 295 j = w (gW m ss ln p h f sk th we hi pa j)) ∧ (∀ a k, 296 ≤ a → I' a k = I a k) ∧ (1 ≤ gA ss ln p h f sk th we hi pa ∧ gA ss ln p h f sk th we hi pa ≤ 81) ∧ (∀ j, 0 ≤ gW m ss ln p h f sk th we hi pa j ∧ gW m ss ln p h f sk th we hi pa j ≤ 81) ∧ (∀ j, m 3 ≤ j → gW m ss ln p h f sk th we hi pa j = 0) := by
  obtain ⟨q1, q2, q3, q4, q5, q6⟩ := id hQ
  have hpp := q5.2.2.2.2.2.2.2.2.2.2.2 p hp.1 hp.2
  have hhh := q5.2.2.2.2.2.2.2.2.2.2.1 h hh.1 hh.2
  have hb : ∀ k, 0 ≤ syA ss ln p h f hi pa sk th we k ∧ syA ss ln p h f hi pa sk th we k ≤ 758 := fun k => RLaw_b q3 _ k
  have hsk : 0 ≤ sk ∧ sk ≤ 99 := by omega
  obtain ⟨I1, k1, k2, k3, k4, k5, k6, k7⟩ := sp_259 (d := d) (p := p) (h := h) (f := f) (hi := hi) (pa := pa) (t := t) (sk := sk) (th := th) (we := we) (fl := (I 287 12).toInt) (vn := vn) (vc := vc) (vw := vw) (J := J) q1 q2 q3 (by rw [q4]; exact q5) (by rw [q4]; exact hp) (by rw [q4]; exact hh) (w_of _).symm ht (by rw [q4]; exact hpp) (by rw [q4]; exact e1) (by rw [q4]; exact e2) (by rw [q4, e3]; split <;> omega) (by rw [q4]; exact hhh.2.2) hb
  have b4 := hb 4
  have b5 := hb 5
  have b2 := hb 2
  have b3 := hb 3
  have b0 := hb 0
  have b1 := hb 1
  have bS := aS_b b4.1 hsk
  have vm1 : vM I1 = m := by rw [vM_f (fun k => k2 _ _ (by omega) (by omega) (by omega))]; exact q4
  obtain ⟨I', l1, l2, l3⟩ := sp_267 (d := d + 27) (m := m) (h := h) (b := syA ss ln p h f hi pa sk th we 5) (X := aX (syA ss ln p h f hi pa sk th we) f) (Y := aY (syA ss ln p h f hi pa sk th we) pa) (S := aS (syA ss ln p h f hi pa sk th we) sk) (I := I1) (vn := vn) (vc := vc) (vw := vw) (J := J) q1 q5 hh (by omega) bS (by unfold aX aY; omega) ⟨vm1, k3, k4, k5, k6⟩
  have f1 : FQ I I' := fun a k x => by rw [l2 a k (by omega) (by omega), k2 a k (by omega) (by omega) (by omega)]
  have h15 : I' 287 15 = w 0 ∨ I' 287 15 = w 1 := by rw [l2 _ _ (by omega) (by omega)]; exact k7 q6
  exact ⟨I1, I', k1, l1, f1, QR_f f1 h15 hQ, l3, fun a k x => by rw [l2 a k (by omega) (by omega), k2 a k (by omega) (by omega) (by omega)], gA_b (fun k => (hb k).1) hsk, fun j => wyF_b bS, fun j hj => wyF_far q5 hj⟩
def SK (I : Nat → Nat → Int32) (B : Int → Int × Int × Int) : Prop := (∀ k : Nat, k < 10 → I 296 k = w (B k).1 ∧ I 297 k = w (B k).2.1 ∧ I 298 k = w (B k).2.2) ∧ ∀ j, 0 ≤ (B j).1 ∧ (B j).1 ≤ 1000000
theorem lp_298k {d : Nat} {m W : Int → Int} {ss : List Int} {ln p h f hi pa A : Int} (hW : ∀ j, 0 ≤ W j ∧ W j ≤ 81) (hA : 1 ≤ A ∧ A ≤ 81) :
    ∀ (n : Nat) (k : Int) (I : Nat → Nat → Int32) (B : Int → Int × Int × Int), 0 ≤ k → k + n = m 3 → QR K L R I m ss ln → (∀ j : Nat, j < 10 → I 295 j = w (W j)) → SK I B →
    ∃ I', atv PR (d + 35) cd_298 46 [.ref 287, .int (w p), .int (w h), .int (w f), .int (w hi), .int (w pa), .int (w A), .int (w k)] [] (((vn, vc, vw, K, L, R), I, J) : HS) = atv PR (d + 35) cd_298 29 [.ref 287, .int (w p), .int (w h), .int (w f), .int (w hi), .int (w (pa + 1)), .int (w A), .int (w (m 3))] [] (((vn, vc, vw, K, L, R), I', J) : HS) ∧ FQ I I' ∧ QR K L R I' m ss ln ∧ SK I' (fun j => if k ≤ j ∧ j < m 3 then stB (odF W A j) hi pa (B j) else B j) ∧ ∀ a k, 299 ≤ a → I' a k = I a k := by
  intro n
  induction n with
  | zero =>
    intro k I B h0 hk hQ hw gS
    have hM := hQ.1
    have hB3 := hQ.2.2.2.2.1.1
    have i3 : I 288 (ix 3) = w (m 3) := by rw [rV_s I (by omega), hQ.2.2.2.1]
    have ek : k = m 3 := by omega
    subst ek
    refine ⟨I, ?_, FQ_rf, hQ, ?_, fun _ _ _ => rfl⟩
    · rw [eq_298_46]
      simp (disch := first | assumption | omega | (simp (disch := omega) only [vM_u, vS_u]; first | assumption | omega)) only [hK, hL, hR, hI, hN, sI, hSp, hC, hW, li, lr, ↓cnd_a, ↓cnd_o, ↓cnd_n, ↓cnd_d, ↓z0, ↓z1, ↓z2, y0n, y1i, y2r, y0e, y1e, y2e, wl_0, wl_1, wl_2, wl_3, wl_4, wl_5, wl_6, wl_7, wl_8, wl_9, wl_10, wl_11, wl_12, wl_13, wl_14, wl_15, wl_16, wl_17, wl_18, wl_19, wl_20, wl_21, wl_22, wl_23, wl_24, wl_25, wl_26, wl_27, wl_28, wl_29, wl_30, wl_31, wl_32, wl_33, wl_34, wl_35, wl_36, wl_37, wl_38, wl_39, wl_40, wl_41, wl_42, wl_43, wl_44, wl_45, wl_46, wl_47, wl_48, wl_49, wl_50, wl_51, wl_52, wl_53, wl_54, wl_55, wl_56, wl_57, wl_58, wl_59, wl_60, wl_61, wl_62, wl_63, wl_64, wl_65, wl_66, wl_67, wl_68, wl_69, wl_70, wl_71, wl_72, wl_73, wl_74, wl_75, wl_76, wl_77, wl_78, wl_79, wl_80, wl_81, wl_82, wl_83, wl_84, wl_85, wl_86, wl_87, wl_88, wl_89, wl_90, wl_91, wl_92, wl_93, wl_94, wl_95, wl_96, wl_97, wl_98, wl_99, wl_100, wl_101, wl_102, wl_103, wl_104, wl_105, wl_106, wl_107, wl_108, wl_109, wl_110, wl_111, wl_112, wl_113, wl_114, wl_115, wl_116, wl_117, wl_118, wl_119, wl_120, wl_121, wl_122, wl_123, wl_124, wl_125, wl_126, wl_127, wl_128, wl_129, wl_130, wl_159, wl_160, wl_200, wl_232, wl_255, wl_256, wl_300, wl_359, wl_360, wl_400, wl_592, wl_992, wl_999, wl_1000, wl_1024, wl_3456, wl_6512, wl_7104, wl_10000, wl_11264, wl_12345, wl_32767, wl_1000000000, wl_1103515245, wl_2000000000, w_add, w_sub, w_mul, w_neg, w_lt, w_le, w_eq, w_cl, w_in, w_nat, w_max2, w_min2, w_abs2, iltT, iltF, ileT, ileF, ieqT, ieqF, bv_01, bft, bv_0, bv_1, bv_t, bv_f, cond_true, cond_false, Bool.not_true, Bool.not_false, if_true, if_false, true_or, or_true, true_and, and_true, ↓reduceIte, decide_true, decide_false, reduceCtorEq, u2_s, u2_o, u2_k, u2_u2, Bool.true_or, Bool.or_true, Bool.false_or, Bool.or_false, Bool.and_true, Bool.true_and, Bool.and_false, Bool.false_and, eq_self, not_true_eq_false, not_false_eq_true, and_self, and_true, true_and, false_and, and_false, w_dv, dvm, MSH_e hM, i3]
    · have e : (fun j => if m 3 ≤ j ∧ j < m 3 then stB (odF W A j) hi pa (B j) else B j) = B := by
        funext j
        rw [if_neg (by omega)]
      rw [e]
      exact gS
  | succ n ih =>
    intro k I B h0 hk hQ hw gS
    have hM := hQ.1
    have hB3 := hQ.2.2.2.2.1.1
    have i3 : I 288 (ix 3) = w (m 3) := by rw [rV_s I (by omega), hQ.2.2.2.1]
    have hk10 : ix k < 10 := by unfold ix; omega
    have hkk : (ix k : Int) = k := by unfold ix; omega
    have wk : I 295 (ix k) = w (W k) := by rw [hw _ hk10, hkk]
    have sk1 := gS.1 _ hk10
    rw [hkk] at sk1
    have bb := gS.2 k
    have bw := hW k
    have od : odF W A k = 10000 * W k / A := by unfold odF; rw [Int.mul_comm]
    have ob := odF_b (wy := W) (al := A) (j := k) hA.1 bw
    rw [od] at ob
    by_cases c : (B k).1 < 10000 * W k / A
    · obtain ⟨I1, hI1⟩ : ∃ I1, I1 = u2 (u2 (u2 I 296 (ix k) (w (10000 * W k / A))) 297 (ix k) (w hi)) 298 (ix k) (w pa) := ⟨_, rfl⟩
      have f1 : FQ I I1 := by rw [hI1]; exact FQ_tr (FQ_tr (FQ_u (by omega)) (FQ_u (by omega))) (FQ_u (by omega))
      have Q1 : QR K L R I1 m ss ln := by rw [hI1]; exact QR_u (by omega) (QR_u (by omega) (QR_u (by omega) hQ))
      have S1 : SK I1 (fun j => if j = k then (10000 * W k / A, hi, pa) else B j) := by
        refine ⟨fun j hj => ?_, fun j => ?_⟩
        · by_cases c1 : j = ix k
          · have c2 : (j : Int) = k := by rw [c1]; exact hkk
            simp only [if_pos c2]
            rw [hI1, c1]
            refine ⟨?_, ?_, ?_⟩
            · rw [u2_o _ _ _ _ (by decide), u2_o _ _ _ _ (by decide), u2_s]
            · rw [u2_o _ _ _ _ (by decide), u2_s]
            · rw [u2_s]
          · have c2 : ¬((j : Int) = k) := by unfold ix at c1; omega
            simp only [if_neg c2]
            have := gS.1 j hj
            rw [hI1]
            refine ⟨?_, ?_, ?_⟩
            · rw [u2_o _ _ _ _ (by decide), u2_o _ _ _ _ (by decide), u2_k _ _ _ _ c1]; exact this.1
            · rw [u2_o _ _ _ _ (by decide), u2_k _ _ _ _ c1, u2_o _ _ _ _ (by decide)]; exact this.2.1
            · rw [u2_k _ _ _ _ c1, u2_o _ _ _ _ (by decide), u2_o _ _ _ _ (by decide)]; exact this.2.2
        · dsimp only
          split
          · dsimp only; omega
          · exact gS.2 j
      obtain ⟨I', e1, e2, e3, e4, e5⟩ := ih (k + 1) I1 _ (by omega) (by omega) Q1 (fun j hj => by rw [hI1, u2_o _ _ _ _ (by decide), u2_o _ _ _ _ (by decide), u2_o _ _ _ _ (by decide)]; exact hw j hj) S1
      refine ⟨I', ?_, FQ_tr f1 e2, e3, ?_, fun a z ha => by rw [e5 a z ha, hI1, u2_o _ _ _ _ (by omega), u2_o _ _ _ _ (by omega), u2_o _ _ _ _ (by omega)]⟩
      · rw [← e1, hI1, eq_298_46]
        simp (disch := first | assumption | omega | (simp (disch := omega) only [vM_u, vS_u]; first | assumption | omega)) only [hK, hL, hR, hI, hN, sI, hSp, hC, hW, li, lr, ↓cnd_a, ↓cnd_o, ↓cnd_n, ↓cnd_d, ↓z0, ↓z1, ↓z2, y0n, y1i, y2r, y0e, y1e, y2e, wl_0, wl_1, wl_2, wl_3, wl_4, wl_5, wl_6, wl_7, wl_8, wl_9, wl_10, wl_11, wl_12, wl_13, wl_14, wl_15, wl_16, wl_17, wl_18, wl_19, wl_20, wl_21, wl_22, wl_23, wl_24, wl_25, wl_26, wl_27, wl_28, wl_29, wl_30, wl_31, wl_32, wl_33, wl_34, wl_35, wl_36, wl_37, wl_38, wl_39, wl_40, wl_41, wl_42, wl_43, wl_44, wl_45, wl_46, wl_47, wl_48, wl_49, wl_50, wl_51, wl_52, wl_53, wl_54, wl_55, wl_56, wl_57, wl_58, wl_59, wl_60, wl_61, wl_62, wl_63, wl_64, wl_65, wl_66, wl_67, wl_68, wl_69, wl_70, wl_71, wl_72, wl_73, wl_74, wl_75, wl_76, wl_77, wl_78, wl_79, wl_80, wl_81, wl_82, wl_83, wl_84, wl_85, wl_86, wl_87, wl_88, wl_89, wl_90, wl_91, wl_92, wl_93, wl_94, wl_95, wl_96, wl_97, wl_98, wl_99, wl_100, wl_101, wl_102, wl_103, wl_104, wl_105, wl_106, wl_107, wl_108, wl_109, wl_110, wl_111, wl_112, wl_113, wl_114, wl_115, wl_116, wl_117, wl_118, wl_119, wl_120, wl_121, wl_122, wl_123, wl_124, wl_125, wl_126, wl_127, wl_128, wl_129, wl_130, wl_159, wl_160, wl_200, wl_232, wl_255, wl_256, wl_300, wl_359, wl_360, wl_400, wl_592, wl_992, wl_999, wl_1000, wl_1024, wl_3456, wl_6512, wl_7104, wl_10000, wl_11264, wl_12345, wl_32767, wl_1000000000, wl_1103515245, wl_2000000000, w_add, w_sub, w_mul, w_neg, w_lt, w_le, w_eq, w_cl, w_in, w_nat, w_max2, w_min2, w_abs2, iltT, iltF, ileT, ileF, ieqT, ieqF, bv_01, bft, bv_0, bv_1, bv_t, bv_f, cond_true, cond_false, Bool.not_true, Bool.not_false, if_true, if_false, true_or, or_true, true_and, and_true, ↓reduceIte, decide_true, decide_false, reduceCtorEq, u2_s, u2_o, u2_k, u2_u2, Bool.true_or, Bool.or_true, Bool.false_or, Bool.or_false, Bool.and_true, Bool.true_and, Bool.and_false, Bool.false_and, eq_self, not_true_eq_false, not_false_eq_true, and_self, and_true, true_and, false_and, and_false, w_dv, dvm, MSH_e hM, i3, wk, sk1.1]
      · have e : (fun j => if k + 1 ≤ j ∧ j < m 3 then stB (odF W A j) hi pa (if j = k then (10000 * W k / A, hi, pa) else B j) else if j = k then (10000 * W k / A, hi, pa) else B j) = (fun j => if k ≤ j ∧ j < m 3 then stB (odF W A j) hi pa (B j) else B j) := by
          funext j
          by_cases c1 : j = k
          · rw [if_neg (by omega), if_pos c1, if_pos (by omega), c1]
            unfold stB
            rw [od, if_pos c]
          · rw [if_neg c1]
            by_cases c2 : k ≤ j ∧ j < m 3
            · rw [if_pos c2, if_pos (by omega)]
            · rw [if_neg c2, if_neg (by omega)]
        rw [e] at e4
        exact e4
    · obtain ⟨I', e1, e2, e3, e4, e5⟩ := ih (k + 1) I B (by omega) (by omega) hQ hw gS
      refine ⟨I', ?_, e2, e3, ?_, e5⟩
      · rw [← e1, eq_298_46]
        simp (disch := first | assumption | omega | (simp (disch := omega) only [vM_u, vS_u]; first | assumption | omega)) only [hK, hL, hR, hI, hN, sI, hSp, hC, hW, li, lr, ↓cnd_a, ↓cnd_o, ↓cnd_n, ↓cnd_d, ↓z0, ↓z1, ↓z2, y0n, y1i, y2r, y0e, y1e, y2e, wl_0, wl_1, wl_2, wl_3, wl_4, wl_5, wl_6, wl_7, wl_8, wl_9, wl_10, wl_11, wl_12, wl_13, wl_14, wl_15, wl_16, wl_17, wl_18, wl_19, wl_20, wl_21, wl_22, wl_23, wl_24, wl_25, wl_26, wl_27, wl_28, wl_29, wl_30, wl_31, wl_32, wl_33, wl_34, wl_35, wl_36, wl_37, wl_38, wl_39, wl_40, wl_41, wl_42, wl_43, wl_44, wl_45, wl_46, wl_47, wl_48, wl_49, wl_50, wl_51, wl_52, wl_53, wl_54, wl_55, wl_56, wl_57, wl_58, wl_59, wl_60, wl_61, wl_62, wl_63, wl_64, wl_65, wl_66, wl_67, wl_68, wl_69, wl_70, wl_71, wl_72, wl_73, wl_74, wl_75, wl_76, wl_77, wl_78, wl_79, wl_80, wl_81, wl_82, wl_83, wl_84, wl_85, wl_86, wl_87, wl_88, wl_89, wl_90, wl_91, wl_92, wl_93, wl_94, wl_95, wl_96, wl_97, wl_98, wl_99, wl_100, wl_101, wl_102, wl_103, wl_104, wl_105, wl_106, wl_107, wl_108, wl_109, wl_110, wl_111, wl_112, wl_113, wl_114, wl_115, wl_116, wl_117, wl_118, wl_119, wl_120, wl_121, wl_122, wl_123, wl_124, wl_125, wl_126, wl_127, wl_128, wl_129, wl_130, wl_159, wl_160, wl_200, wl_232, wl_255, wl_256, wl_300, wl_359, wl_360, wl_400, wl_592, wl_992, wl_999, wl_1000, wl_1024, wl_3456, wl_6512, wl_7104, wl_10000, wl_11264, wl_12345, wl_32767, wl_1000000000, wl_1103515245, wl_2000000000, w_add, w_sub, w_mul, w_neg, w_lt, w_le, w_eq, w_cl, w_in, w_nat, w_max2, w_min2, w_abs2, iltT, iltF, ileT, ileF, ieqT, ieqF, bv_01, bft, bv_0, bv_1, bv_t, bv_f, cond_true, cond_false, Bool.not_true, Bool.not_false, if_true, if_false, true_or, or_true, true_and, and_true, ↓reduceIte, decide_true, decide_false, reduceCtorEq, u2_s, u2_o, u2_k, u2_u2, Bool.true_or, Bool.or_true, Bool.false_or, Bool.or_false, Bool.and_true, Bool.true_and, Bool.and_false, Bool.false_and, eq_self, not_true_eq_false, not_false_eq_true, and_self, and_true, true_and, false_and, and_false, w_dv, dvm, MSH_e hM, i3, wk, sk1.1]
      · have e : (fun j => if k + 1 ≤ j ∧ j < m 3 then stB (odF W A j) hi pa (B j) else B j) = (fun j => if k ≤ j ∧ j < m 3 then stB (odF W A j) hi pa (B j) else B j) := by
          funext j
          by_cases c1 : j = k
          · rw [if_neg (by omega), if_pos (by omega), c1]
            unfold stB
            rw [od, if_neg c]
          · by_cases c2 : k ≤ j ∧ j < m 3
            · rw [if_pos c2, if_pos (by omega)]
            · rw [if_neg c2, if_neg (by omega)]
        rw [e] at e4
        exact e4
theorem lp_298p {d : Nat} {m : Int → Int} {ss : List Int} {ln p h f hi sk th we : Int} (hp : 0 ≤ p ∧ p < m 5) (hh : 0 ≤ h ∧ h < m 4) (hf : 0 ≤ f ∧ f ≤ 59) (hhi : 0 ≤ hi ∧ hi ≤ 5) (e1 : sk = min 99 (pe m p 0)) (e2 : th = pe m p 1) (e3 : we = ho m h 2) :
    ∀ (n : Nat) (pa : Int) (I : Nat → Nat → Int32) (B : Int → Int × Int × Int) (w6 w7 : Value), 0 ≤ pa → pa + n = 12 → QR K L R I m ss ln → SK I B → (∀ j, m 3 ≤ j → (B j).1 = 0) →
    ∃ I' v6 v7, atv PR (d + 35) cd_298 29 [.ref 287, .int (w p), .int (w h), .int (w f), .int (w hi), .int (w pa), w6, w7] [] (((vn, vc, vw, K, L, R), I, J) : HS) = atv PR (d + 35) cd_298 24 [.ref 287, .int (w p), .int (w h), .int (w f), .int (w (hi + 1)), .int (w 12), v6, v7] [] (((vn, vc, vw, K, L, R), I', J) : HS) ∧ FQ I I' ∧ QR K L R I' m ss ln ∧ SK I' (fP (swB (gW m ss ln p h f sk th we) (gA ss ln p h f sk th we) hi) pa n B) ∧ (∀ j, m 3 ≤ j → (fP (swB (gW m ss ln p h f sk th we) (gA ss ln p h f sk th we) hi) pa n B j).1 = 0) ∧ ∀ a k, 299 ≤ a → I' a k = I a k := by
  intro n
  induction n with
  | zero =>
    intro pa I B w6 w7 h0 hk hQ gS hZ
    have ek : pa = 12 := by omega
    subst ek
    refine ⟨I, w6, w7, ?_, FQ_rf, hQ, gS, hZ, fun _ _ _ => rfl⟩
    rw [eq_298_29]
    simp (disch := first | assumption | omega | (simp (disch := omega) only [vM_u, vS_u]; first | assumption | omega)) only [hK, hL, hR, hI, hN, sI, hSp, hC, hW, li, lr, ↓cnd_a, ↓cnd_o, ↓cnd_n, ↓cnd_d, ↓z0, ↓z1, ↓z2, y0n, y1i, y2r, y0e, y1e, y2e, wl_0, wl_1, wl_2, wl_3, wl_4, wl_5, wl_6, wl_7, wl_8, wl_9, wl_10, wl_11, wl_12, wl_13, wl_14, wl_15, wl_16, wl_17, wl_18, wl_19, wl_20, wl_21, wl_22, wl_23, wl_24, wl_25, wl_26, wl_27, wl_28, wl_29, wl_30, wl_31, wl_32, wl_33, wl_34, wl_35, wl_36, wl_37, wl_38, wl_39, wl_40, wl_41, wl_42, wl_43, wl_44, wl_45, wl_46, wl_47, wl_48, wl_49, wl_50, wl_51, wl_52, wl_53, wl_54, wl_55, wl_56, wl_57, wl_58, wl_59, wl_60, wl_61, wl_62, wl_63, wl_64, wl_65, wl_66, wl_67, wl_68, wl_69, wl_70, wl_71, wl_72, wl_73, wl_74, wl_75, wl_76, wl_77, wl_78, wl_79, wl_80, wl_81, wl_82, wl_83, wl_84, wl_85, wl_86, wl_87, wl_88, wl_89, wl_90, wl_91, wl_92, wl_93, wl_94, wl_95, wl_96, wl_97, wl_98, wl_99, wl_100, wl_101, wl_102, wl_103, wl_104, wl_105, wl_106, wl_107, wl_108, wl_109, wl_110, wl_111, wl_112, wl_113, wl_114, wl_115, wl_116, wl_117, wl_118, wl_119, wl_120, wl_121, wl_122, wl_123, wl_124, wl_125, wl_126, wl_127, wl_128, wl_129, wl_130, wl_159, wl_160, wl_200, wl_232, wl_255, wl_256, wl_300, wl_359, wl_360, wl_400, wl_592, wl_992, wl_999, wl_1000, wl_1024, wl_3456, wl_6512, wl_7104, wl_10000, wl_11264, wl_12345, wl_32767, wl_1000000000, wl_1103515245, wl_2000000000, w_add, w_sub, w_mul, w_neg, w_lt, w_le, w_eq, w_cl, w_in, w_nat, w_max2, w_min2, w_abs2, iltT, iltF, ileT, ileF, ieqT, ieqF, bv_01, bft, bv_0, bv_1, bv_t, bv_f, cond_true, cond_false, Bool.not_true, Bool.not_false, if_true, if_false, true_or, or_true, true_and, and_true, ↓reduceIte, decide_true, decide_false, reduceCtorEq, u2_s, u2_o, u2_k, u2_u2, Bool.true_or, Bool.or_true, Bool.false_or, Bool.or_false, Bool.and_true, Bool.true_and, Bool.and_false, Bool.false_and, eq_self, not_true_eq_false, not_false_eq_true, and_self, and_true, true_and, false_and, and_false, w_dv, dvm]
  | succ n ih =>
    intro pa I B w6 w7 h0 hk hQ gS hZ
    have hM := hQ.1
    have hB3 := hQ.2.2.2.2.1.1
    obtain ⟨I1, I2, k1, k2, k3, k4, k5, k6, k7, k8, k9⟩ := rt_1 (d := d + 1) (p := p) (h := h) (f := f) (hi := hi) (pa := pa) (t := 0) (sk := sk) (th := th) (we := we) (vn := vn) (vc := vc) (vw := vw) (J := J) hQ hp hh ⟨hf, by omega⟩ (by omega) (by rw [e1, Int.add_zero]) (by rw [e2, Int.add_zero]) e3
    have S2 : SK I2 B := ⟨fun j hj => by rw [k6 _ _ (by omega), k6 _ _ (by omega), k6 _ _ (by omega)]; exact gS.1 j hj, gS.2⟩
    obtain ⟨I3, l1, l2, l3, l4, l5⟩ := lp_298k (d := d) (p := p) (h := h) (f := f) (hi := hi) (pa := pa) (vn := vn) (vc := vc) (vw := vw) (J := J) k8 k7 (m 3).toNat 0 I2 B (by omega) (by omega) k4 k5 S2
    have eB : ∀ j, (if 0 ≤ j ∧ j < m 3 then stB (odF (gW m ss ln p h f sk th we hi pa) (gA ss ln p h f sk th we hi pa) j) hi pa (B j) else B j) = swB (gW m ss ln p h f sk th we) (gA ss ln p h f sk th we) hi pa B j := by
      intro j
      unfold swB
      by_cases c1 : 0 ≤ j ∧ j < m 3
      · rw [if_pos c1, if_pos (by omega)]
      · rw [if_neg c1]
        by_cases c2 : 0 ≤ j ∧ j < 10
        · rw [if_pos c2]
          have o0 : odF (gW m ss ln p h f sk th we hi pa) (gA ss ln p h f sk th we hi pa) j = 0 := by
            unfold odF
            rw [k9 j (by omega)]
            simp
          unfold stB
          rw [o0, hZ j (by omega), if_neg (by omega)]
        · rw [if_neg c2]
    have eB' : (fun j => if 0 ≤ j ∧ j < m 3 then stB (odF (gW m ss ln p h f sk th we hi pa) (gA ss ln p h f sk th we hi pa) j) hi pa (B j) else B j) = swB (gW m ss ln p h f sk th we) (gA ss ln p h f sk th we) hi pa B := funext eB
    rw [eB'] at l4
    have hZ' : ∀ j, m 3 ≤ j → (swB (gW m ss ln p h f sk th we) (gA ss ln p h f sk th we) hi pa B j).1 = 0 := fun j hj => by rw [← eB j, if_neg (by omega)]; exact hZ j hj
    obtain ⟨I', v6, v7, x1, x2, x3, x4, x5, x6⟩ := ih (pa + 1) I3 (swB (gW m ss ln p h f sk th we) (gA ss ln p h f sk th we) hi pa B) (.int (w (gA ss ln p h f sk th we hi pa))) (.int (w (m 3))) (by omega) (by omega) l3 l4 hZ'
    refine ⟨I', v6, v7, ?_, FQ_tr k3 (FQ_tr l2 x2), x3, x4, x5, fun a k ha => by rw [x6 a k ha, l5 a k ha, k6 a k (by omega)]⟩
    rw [← x1, ← l1, eq_298_29]
    simp (disch := first | assumption | omega | (simp (disch := omega) only [vM_u, vS_u]; first | assumption | omega)) only [hK, hL, hR, hI, hN, sI, hSp, hC, hW, li, lr, ↓cnd_a, ↓cnd_o, ↓cnd_n, ↓cnd_d, ↓z0, ↓z1, ↓z2, y0n, y1i, y2r, y0e, y1e, y2e, wl_0, wl_1, wl_2, wl_3, wl_4, wl_5, wl_6, wl_7, wl_8, wl_9, wl_10, wl_11, wl_12, wl_13, wl_14, wl_15, wl_16, wl_17, wl_18, wl_19, wl_20, wl_21, wl_22, wl_23, wl_24, wl_25, wl_26, wl_27, wl_28, wl_29, wl_30, wl_31, wl_32, wl_33, wl_34, wl_35, wl_36, wl_37, wl_38, wl_39, wl_40, wl_41, wl_42, wl_43, wl_44, wl_45, wl_46, wl_47, wl_48, wl_49, wl_50, wl_51, wl_52, wl_53, wl_54, wl_55, wl_56, wl_57, wl_58, wl_59, wl_60, wl_61, wl_62, wl_63, wl_64, wl_65, wl_66, wl_67, wl_68, wl_69, wl_70, wl_71, wl_72, wl_73, wl_74, wl_75, wl_76, wl_77, wl_78, wl_79, wl_80, wl_81, wl_82, wl_83, wl_84, wl_85, wl_86, wl_87, wl_88, wl_89, wl_90, wl_91, wl_92, wl_93, wl_94, wl_95, wl_96, wl_97, wl_98, wl_99, wl_100, wl_101, wl_102, wl_103, wl_104, wl_105, wl_106, wl_107, wl_108, wl_109, wl_110, wl_111, wl_112, wl_113, wl_114, wl_115, wl_116, wl_117, wl_118, wl_119, wl_120, wl_121, wl_122, wl_123, wl_124, wl_125, wl_126, wl_127, wl_128, wl_129, wl_130, wl_159, wl_160, wl_200, wl_232, wl_255, wl_256, wl_300, wl_359, wl_360, wl_400, wl_592, wl_992, wl_999, wl_1000, wl_1024, wl_3456, wl_6512, wl_7104, wl_10000, wl_11264, wl_12345, wl_32767, wl_1000000000, wl_1103515245, wl_2000000000, w_add, w_sub, w_mul, w_neg, w_lt, w_le, w_eq, w_cl, w_in, w_nat, w_max2, w_min2, w_abs2, iltT, iltF, ileT, ileF, ieqT, ieqF, bv_01, bft, bv_0, bv_1, bv_t, bv_f, cond_true, cond_false, Bool.not_true, Bool.not_false, if_true, if_false, true_or, or_true, true_and, and_true, ↓reduceIte, decide_true, decide_false, reduceCtorEq, u2_s, u2_o, u2_k, u2_u2, Bool.true_or, Bool.or_true, Bool.false_or, Bool.or_false, Bool.and_true, Bool.true_and, Bool.and_false, Bool.false_and, eq_self, not_true_eq_false, not_false_eq_true, and_self, and_true, true_and, false_and, and_false, w_dv, dvm, MSH_e hM, k1, k2]
theorem lp_298h {d : Nat} {m : Int → Int} {ss : List Int} {ln p h f sk th we : Int} (hp : 0 ≤ p ∧ p < m 5) (hh : 0 ≤ h ∧ h < m 4) (hf : 0 ≤ f ∧ f ≤ 59) (e1 : sk = min 99 (pe m p 0)) (e2 : th = pe m p 1) (e3 : we = ho m h 2) :
    ∀ (n : Nat) (hi : Int) (I : Nat → Nat → Int32) (B : Int → Int × Int × Int) (w5 w6 w7 : Value), 0 ≤ hi → hi + n = 6 → QR K L R I m ss ln → SK I B → (∀ j, m 3 ≤ j → (B j).1 = 0) →
    ∃ I', atv PR (d + 35) cd_298 24 [.ref 287, .int (w p), .int (w h), .int (w f), .int (w hi), w5, w6, w7] [] (((vn, vc, vw, K, L, R), I, J) : HS) = some (.inl none, (((vn, vc, vw, K, L, R), I', J) : HS)) ∧ FQ I I' ∧ QR K L R I' m ss ln ∧ SK I' (fP (fun hi => fP (swB (gW m ss ln p h f sk th we) (gA ss ln p h f sk th we) hi) 0 12) hi n B) ∧ ∀ a k, 299 ≤ a → I' a k = I a k := by
  intro n
  induction n with
  | zero =>
    intro hi I B w5 w6 w7 h0 hk hQ gS hZ
    have ek : hi = 6 := by omega
    subst ek
    refine ⟨I, ?_, FQ_rf, hQ, gS, fun _ _ _ => rfl⟩
    rw [eq_298_24]
    simp (disch := first | assumption | omega | (simp (disch := omega) only [vM_u, vS_u]; first | assumption | omega)) only [hK, hL, hR, hI, hN, sI, hSp, hC, hW, li, lr, ↓cnd_a, ↓cnd_o, ↓cnd_n, ↓cnd_d, ↓z0, ↓z1, ↓z2, y0n, y1i, y2r, y0e, y1e, y2e, wl_0, wl_1, wl_2, wl_3, wl_4, wl_5, wl_6, wl_7, wl_8, wl_9, wl_10, wl_11, wl_12, wl_13, wl_14, wl_15, wl_16, wl_17, wl_18, wl_19, wl_20, wl_21, wl_22, wl_23, wl_24, wl_25, wl_26, wl_27, wl_28, wl_29, wl_30, wl_31, wl_32, wl_33, wl_34, wl_35, wl_36, wl_37, wl_38, wl_39, wl_40, wl_41, wl_42, wl_43, wl_44, wl_45, wl_46, wl_47, wl_48, wl_49, wl_50, wl_51, wl_52, wl_53, wl_54, wl_55, wl_56, wl_57, wl_58, wl_59, wl_60, wl_61, wl_62, wl_63, wl_64, wl_65, wl_66, wl_67, wl_68, wl_69, wl_70, wl_71, wl_72, wl_73, wl_74, wl_75, wl_76, wl_77, wl_78, wl_79, wl_80, wl_81, wl_82, wl_83, wl_84, wl_85, wl_86, wl_87, wl_88, wl_89, wl_90, wl_91, wl_92, wl_93, wl_94, wl_95, wl_96, wl_97, wl_98, wl_99, wl_100, wl_101, wl_102, wl_103, wl_104, wl_105, wl_106, wl_107, wl_108, wl_109, wl_110, wl_111, wl_112, wl_113, wl_114, wl_115, wl_116, wl_117, wl_118, wl_119, wl_120, wl_121, wl_122, wl_123, wl_124, wl_125, wl_126, wl_127, wl_128, wl_129, wl_130, wl_159, wl_160, wl_200, wl_232, wl_255, wl_256, wl_300, wl_359, wl_360, wl_400, wl_592, wl_992, wl_999, wl_1000, wl_1024, wl_3456, wl_6512, wl_7104, wl_10000, wl_11264, wl_12345, wl_32767, wl_1000000000, wl_1103515245, wl_2000000000, w_add, w_sub, w_mul, w_neg, w_lt, w_le, w_eq, w_cl, w_in, w_nat, w_max2, w_min2, w_abs2, iltT, iltF, ileT, ileF, ieqT, ieqF, bv_01, bft, bv_0, bv_1, bv_t, bv_f, cond_true, cond_false, Bool.not_true, Bool.not_false, if_true, if_false, true_or, or_true, true_and, and_true, ↓reduceIte, decide_true, decide_false, reduceCtorEq, u2_s, u2_o, u2_k, u2_u2, Bool.true_or, Bool.or_true, Bool.false_or, Bool.or_false, Bool.and_true, Bool.true_and, Bool.and_false, Bool.false_and, eq_self, not_true_eq_false, not_false_eq_true, and_self, and_true, true_and, false_and, and_false, w_dv, dvm]
  | succ n ih =>
    intro hi I B w5 w6 w7 h0 hk hQ gS hZ
    obtain ⟨I1, v6, v7, k1, k2, k3, k4, k5, k6⟩ := lp_298p (d := d) (p := p) (h := h) (f := f) (hi := hi) (sk := sk) (th := th) (we := we) (vn := vn) (vc := vc) (vw := vw) (J := J) hp hh hf (by omega) e1 e2 e3 12 0 I B w6 w7 (by omega) (by omega) hQ gS hZ
    obtain ⟨I', x1, x2, x3, x4, x5⟩ := ih (hi + 1) I1 _ (.int (w 12)) v6 v7 (by omega) (by omega) k3 k4 k5
    refine ⟨I', ?_, FQ_tr k2 x2, x3, x4, fun a k ha => by rw [x5 a k ha, k6 a k ha]⟩
    rw [eq_298_24]
    simp (disch := first | assumption | omega | (simp (disch := omega) only [vM_u, vS_u]; first | assumption | omega)) only [hK, hL, hR, hI, hN, sI, hSp, hC, hW, li, lr, ↓cnd_a, ↓cnd_o, ↓cnd_n, ↓cnd_d, ↓z0, ↓z1, ↓z2, y0n, y1i, y2r, y0e, y1e, y2e, wl_0, wl_1, wl_2, wl_3, wl_4, wl_5, wl_6, wl_7, wl_8, wl_9, wl_10, wl_11, wl_12, wl_13, wl_14, wl_15, wl_16, wl_17, wl_18, wl_19, wl_20, wl_21, wl_22, wl_23, wl_24, wl_25, wl_26, wl_27, wl_28, wl_29, wl_30, wl_31, wl_32, wl_33, wl_34, wl_35, wl_36, wl_37, wl_38, wl_39, wl_40, wl_41, wl_42, wl_43, wl_44, wl_45, wl_46, wl_47, wl_48, wl_49, wl_50, wl_51, wl_52, wl_53, wl_54, wl_55, wl_56, wl_57, wl_58, wl_59, wl_60, wl_61, wl_62, wl_63, wl_64, wl_65, wl_66, wl_67, wl_68, wl_69, wl_70, wl_71, wl_72, wl_73, wl_74, wl_75, wl_76, wl_77, wl_78, wl_79, wl_80, wl_81, wl_82, wl_83, wl_84, wl_85, wl_86, wl_87, wl_88, wl_89, wl_90, wl_91, wl_92, wl_93, wl_94, wl_95, wl_96, wl_97, wl_98, wl_99, wl_100, wl_101, wl_102, wl_103, wl_104, wl_105, wl_106, wl_107, wl_108, wl_109, wl_110, wl_111, wl_112, wl_113, wl_114, wl_115, wl_116, wl_117, wl_118, wl_119, wl_120, wl_121, wl_122, wl_123, wl_124, wl_125, wl_126, wl_127, wl_128, wl_129, wl_130, wl_159, wl_160, wl_200, wl_232, wl_255, wl_256, wl_300, wl_359, wl_360, wl_400, wl_592, wl_992, wl_999, wl_1000, wl_1024, wl_3456, wl_6512, wl_7104, wl_10000, wl_11264, wl_12345, wl_32767, wl_1000000000, wl_1103515245, wl_2000000000, w_add, w_sub, w_mul, w_neg, w_lt, w_le, w_eq, w_cl, w_in, w_nat, w_max2, w_min2, w_abs2, iltT, iltF, ileT, ileF, ieqT, ieqF, bv_01, bft, bv_0, bv_1, bv_t, bv_f, cond_true, cond_false, Bool.not_true, Bool.not_false, if_true, if_false, true_or, or_true, true_and, and_true, ↓reduceIte, decide_true, decide_false, reduceCtorEq, u2_s, u2_o, u2_k, u2_u2, Bool.true_or, Bool.or_true, Bool.false_or, Bool.or_false, Bool.and_true, Bool.true_and, Bool.and_false, Bool.false_and, eq_self, not_true_eq_false, not_false_eq_true, and_self, and_true, true_and, false_and, and_false, w_dv, dvm, k1, x1]
theorem sp_298 {d : Nat} {m : Int → Int} {ss : List Int} {ln p h f sk th we : Int} (hQ : QR K L R I m ss ln) (hp : 0 ≤ p ∧ p < m 5) (hh : 0 ≤ h ∧ h < m 4) (hf : 0 ≤ f ∧ f ≤ 59) (e1 : sk = min 99 (pe m p 0)) (e2 : th = pe m p 1) (e3 : we = ho m h 2) :
    ∃ I', ev PR (d + 36) 298 [.ref 287, .int (w p), .int (w h), .int (w f)] (((vn, vc, vw, K, L, R), I, J) : HS) = some (.inl none, (((vn, vc, vw, K, L, R), I', J) : HS)) ∧ FQ I I' ∧ QR K L R I' m ss ln ∧ SK I' (swBest (gW m ss ln p h f sk th we) (gA ss ln p h f sk th we)) ∧ ∀ a k, 299 ≤ a → I' a k = I a k := by
  have lp : ∀ (n k : Nat) (I : Nat → Nat → Int32), n + k = 10 → QR K L R I m ss ln → (∀ j : Nat, j < k → I 296 j = w 0 ∧ I 297 j = w 0 ∧ I 298 j = w 0) → ∃ I', atv PR (d + 35) cd_298 2 [.ref 287, .int (w p), .int (w h), .int (w f), .int (w (k : Int)), .retAddr 0, .retAddr 0, .retAddr 0] [] (((vn, vc, vw, K, L, R), I, J) : HS) = some (.inl none, (((vn, vc, vw, K, L, R), I', J) : HS)) ∧ FQ I I' ∧ QR K L R I' m ss ln ∧ SK I' (swBest (gW m ss ln p h f sk th we) (gA ss ln p h f sk th we)) ∧ ∀ a k, 299 ≤ a → I' a k = I a k := by
    intro n
    induction n with
    | zero =>
      intro k I hk hQ hz
      have hk2 : k = 10 := by omega
      subst hk2
      have hM := hQ.1
      obtain ⟨I', x1, x2, x3, x4, x5⟩ := lp_298h (d := d) (p := p) (h := h) (f := f) (sk := sk) (th := th) (we := we) (vn := vn) (vc := vc) (vw := vw) (J := J) hp hh hf e1 e2 e3 6 0 I (fun _ => (0, 0, 0)) (.retAddr 0) (.retAddr 0) (.retAddr 0) (by omega) (by omega) hQ ⟨fun j hj => hz j hj, fun j => by dsimp only; omega⟩ (fun j hj => rfl)
      refine ⟨I', ?_, x2, x3, x4, x5⟩
      rw [eq_298_2]
      simp (disch := first | assumption | omega | (simp (disch := omega) only [vM_u, vS_u]; first | assumption | omega)) only [hK, hL, hR, hI, hN, sI, hSp, hC, hW, li, lr, ↓cnd_a, ↓cnd_o, ↓cnd_n, ↓cnd_d, ↓z0, ↓z1, ↓z2, y0n, y1i, y2r, y0e, y1e, y2e, wl_0, wl_1, wl_2, wl_3, wl_4, wl_5, wl_6, wl_7, wl_8, wl_9, wl_10, wl_11, wl_12, wl_13, wl_14, wl_15, wl_16, wl_17, wl_18, wl_19, wl_20, wl_21, wl_22, wl_23, wl_24, wl_25, wl_26, wl_27, wl_28, wl_29, wl_30, wl_31, wl_32, wl_33, wl_34, wl_35, wl_36, wl_37, wl_38, wl_39, wl_40, wl_41, wl_42, wl_43, wl_44, wl_45, wl_46, wl_47, wl_48, wl_49, wl_50, wl_51, wl_52, wl_53, wl_54, wl_55, wl_56, wl_57, wl_58, wl_59, wl_60, wl_61, wl_62, wl_63, wl_64, wl_65, wl_66, wl_67, wl_68, wl_69, wl_70, wl_71, wl_72, wl_73, wl_74, wl_75, wl_76, wl_77, wl_78, wl_79, wl_80, wl_81, wl_82, wl_83, wl_84, wl_85, wl_86, wl_87, wl_88, wl_89, wl_90, wl_91, wl_92, wl_93, wl_94, wl_95, wl_96, wl_97, wl_98, wl_99, wl_100, wl_101, wl_102, wl_103, wl_104, wl_105, wl_106, wl_107, wl_108, wl_109, wl_110, wl_111, wl_112, wl_113, wl_114, wl_115, wl_116, wl_117, wl_118, wl_119, wl_120, wl_121, wl_122, wl_123, wl_124, wl_125, wl_126, wl_127, wl_128, wl_129, wl_130, wl_159, wl_160, wl_200, wl_232, wl_255, wl_256, wl_300, wl_359, wl_360, wl_400, wl_592, wl_992, wl_999, wl_1000, wl_1024, wl_3456, wl_6512, wl_7104, wl_10000, wl_11264, wl_12345, wl_32767, wl_1000000000, wl_1103515245, wl_2000000000, w_add, w_sub, w_mul, w_neg, w_lt, w_le, w_eq, w_cl, w_in, w_nat, w_max2, w_min2, w_abs2, iltT, iltF, ileT, ileF, ieqT, ieqF, bv_01, bft, bv_0, bv_1, bv_t, bv_f, cond_true, cond_false, Bool.not_true, Bool.not_false, if_true, if_false, true_or, or_true, true_and, and_true, ↓reduceIte, decide_true, decide_false, reduceCtorEq, u2_s, u2_o, u2_k, u2_u2, Bool.true_or, Bool.or_true, Bool.false_or, Bool.or_false, Bool.and_true, Bool.true_and, Bool.and_false, Bool.false_and, eq_self, not_true_eq_false, not_false_eq_true, and_self, and_true, true_and, false_and, and_false, w_dv, dvm, MSH_e hM, x1]
    | succ n ih =>
      intro k I hk hQ hz
      have hM := hQ.1
      obtain ⟨I1, hI1⟩ : ∃ I1, I1 = u2 (u2 (u2 I 296 k (w 0)) 297 k (w 0)) 298 k (w 0) := ⟨_, rfl⟩
      have f1 : FQ I I1 := by rw [hI1]; exact FQ_tr (FQ_tr (FQ_u (by omega)) (FQ_u (by omega))) (FQ_u (by omega))
      have Q1 : QR K L R I1 m ss ln := by rw [hI1]; exact QR_u (by omega) (QR_u (by omega) (QR_u (by omega) hQ))
      obtain ⟨I', x1, x2, x3, x4, x5⟩ := ih (k + 1) I1 (by omega) Q1 (fun j hj => by
        rw [hI1]
        by_cases c : j = k
        · rw [c]
          refine ⟨?_, ?_, ?_⟩
          · rw [u2_o _ _ _ _ (by decide), u2_o _ _ _ _ (by decide), u2_s]
          · rw [u2_o _ _ _ _ (by decide), u2_s]
          · rw [u2_s]
        · have := hz j (by omega)
          refine ⟨?_, ?_, ?_⟩
          · rw [u2_o _ _ _ _ (by decide), u2_o _ _ _ _ (by decide), u2_k _ _ _ _ c]; exact this.1
          · rw [u2_o _ _ _ _ (by decide), u2_k _ _ _ _ c, u2_o _ _ _ _ (by decide)]; exact this.2.1
          · rw [u2_k _ _ _ _ c, u2_o _ _ _ _ (by decide), u2_o _ _ _ _ (by decide)]; exact this.2.2)
      refine ⟨I', ?_, FQ_tr f1 x2, x3, x4, fun a z ha => by rw [x5 a z ha, hI1, u2_o _ _ _ _ (by omega), u2_o _ _ _ _ (by omega), u2_o _ _ _ _ (by omega)]⟩
      have n1 : ix (k : Int) = k := by unfold ix; omega
      have n2 : ((k + 1 : Nat) : Int) = (k : Int) + 1 := by omega
      rw [n2, hI1] at x1
      rw [eq_298_2]
      simp (disch := first | assumption | omega | (simp (disch := omega) only [vM_u, vS_u]; first | assumption | omega)) only [hK, hL, hR, hI, hN, sI, hSp, hC, hW, li, lr, ↓cnd_a, ↓cnd_o, ↓cnd_n, ↓cnd_d, ↓z0, ↓z1, ↓z2, y0n, y1i, y2r, y0e, y1e, y2e, wl_0, wl_1, wl_2, wl_3, wl_4, wl_5, wl_6, wl_7, wl_8, wl_9, wl_10, wl_11, wl_12, wl_13, wl_14, wl_15, wl_16, wl_17, wl_18, wl_19, wl_20, wl_21, wl_22, wl_23, wl_24, wl_25, wl_26, wl_27, wl_28, wl_29, wl_30, wl_31, wl_32, wl_33, wl_34, wl_35, wl_36, wl_37, wl_38, wl_39, wl_40, wl_41, wl_42, wl_43, wl_44, wl_45, wl_46, wl_47, wl_48, wl_49, wl_50, wl_51, wl_52, wl_53, wl_54, wl_55, wl_56, wl_57, wl_58, wl_59, wl_60, wl_61, wl_62, wl_63, wl_64, wl_65, wl_66, wl_67, wl_68, wl_69, wl_70, wl_71, wl_72, wl_73, wl_74, wl_75, wl_76, wl_77, wl_78, wl_79, wl_80, wl_81, wl_82, wl_83, wl_84, wl_85, wl_86, wl_87, wl_88, wl_89, wl_90, wl_91, wl_92, wl_93, wl_94, wl_95, wl_96, wl_97, wl_98, wl_99, wl_100, wl_101, wl_102, wl_103, wl_104, wl_105, wl_106, wl_107, wl_108, wl_109, wl_110, wl_111, wl_112, wl_113, wl_114, wl_115, wl_116, wl_117, wl_118, wl_119, wl_120, wl_121, wl_122, wl_123, wl_124, wl_125, wl_126, wl_127, wl_128, wl_129, wl_130, wl_159, wl_160, wl_200, wl_232, wl_255, wl_256, wl_300, wl_359, wl_360, wl_400, wl_592, wl_992, wl_999, wl_1000, wl_1024, wl_3456, wl_6512, wl_7104, wl_10000, wl_11264, wl_12345, wl_32767, wl_1000000000, wl_1103515245, wl_2000000000, w_add, w_sub, w_mul, w_neg, w_lt, w_le, w_eq, w_cl, w_in, w_nat, w_max2, w_min2, w_abs2, iltT, iltF, ileT, ileF, ieqT, ieqF, bv_01, bft, bv_0, bv_1, bv_t, bv_f, cond_true, cond_false, Bool.not_true, Bool.not_false, if_true, if_false, true_or, or_true, true_and, and_true, ↓reduceIte, decide_true, decide_false, reduceCtorEq, u2_s, u2_o, u2_k, u2_u2, Bool.true_or, Bool.or_true, Bool.false_or, Bool.or_false, Bool.and_true, Bool.true_and, Bool.and_false, Bool.false_and, eq_self, not_true_eq_false, not_false_eq_true, and_self, and_true, true_and, false_and, and_false, w_dv, dvm, MSH_e hM, n1, x1]
  obtain ⟨I', x1, x2⟩ := lp 10 0 I (by omega) hQ (fun j hj => by omega)
  refine ⟨I', ?_, x2⟩
  rw [eq_298]
  exact x1
end RSK
