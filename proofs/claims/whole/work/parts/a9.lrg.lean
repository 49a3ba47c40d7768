/-! large -/
theorem odF_10k {W : Int → Int} {A j : Int} (hA : 1 ≤ A) (h : 0 ≤ W j ∧ W j ≤ A) : 0 ≤ odF W A j ∧ odF W A j ≤ 10000 := by
  unfold odF
  have h1 : W j * 10000 ≤ 10000 * A := by omega
  have h2 : W j * 10000 / A ≤ 10000 * A / A := Int.ediv_le_ediv (by omega) h1
  rw [Int.mul_ediv_cancel _ (by omega)] at h2
  exact ⟨Int.ediv_nonneg (by omega) (by omega), h2⟩
theorem wyF_A {m : Int → Int} {h b X Y p j : Int} (hp : 0 ≤ p) : 0 ≤ wyF m h b X Y p j ∧ wyF m h b X Y p j ≤ (2 * p + 1) * (2 * p + 1) := by
  have h1 := sm_b (f := fun x => cnt (fun y => decide (cnF m h x y b = j)) (Y - p) (2 * p + 1).toNat) (M := 2 * p + 1) (2 * p + 1).toNat (X - p) (fun x _ _ => by have := cnt_b (fun y => decide (cnF m h x y b = j)) (2 * p + 1).toNat (Y - p); omega)
  unfold wyF
  have e : ((2 * p + 1).toNat : Int) = 2 * p + 1 := by omega
  rw [e] at h1
  exact h1
theorem fP_stBb {o : Int → Int} {hi c : Int} (ho : ∀ j, o j ≤ c) : ∀ (n : Nat) (k : Int) (t : Int × Int × Int), t.1 ≤ c → (fP (fun pa => stB (o pa) hi pa) k n t).1 ≤ c
  | 0, _, _, h => h
  | n + 1, k, t, h => fP_stBb ho n (k + 1) (stB (o k) hi k t) (by
    unfold stB
    split
    · exact ho k
    · exact h)
theorem swBest_b {W : Int → Int → Int → Int} {A : Int → Int → Int} (hA : ∀ hi pa, 1 ≤ A hi pa) (hw : ∀ hi pa j, 0 ≤ W hi pa j ∧ W hi pa j ≤ A hi pa) (j : Int) : (swBest W A j).1 ≤ 10000 := by
  have g : ∀ (n : Nat) (hi : Int) (B : Int → Int × Int × Int), (∀ j, (B j).1 ≤ 10000) → ∀ j, (fP (fun hi => fP (swB W A hi) 0 12) hi n B j).1 ≤ 10000 := by
    intro n
    induction n with
    | zero => intro hi B h j; exact h j
    | succ n ih =>
      intro hi B h j
      refine ih (hi + 1) (fP (swB W A hi) 0 12 B) (fun j => ?_) j
      rw [fP_swB]
      split
      · exact fP_stBb (fun pa => (odF_10k (hA hi pa) (hw hi pa j)).2) 12 0 _ (h j)
      · exact h j
  exact g 6 0 _ (fun _ => by dsimp only; omega) j
theorem BsP_b {m : Int → Int} {ss : List Int} {ln p h f : Int} (hb : ∀ hi pa k, 0 ≤ syA ss ln p h f hi pa (pe m p 0) (pe m p 1) (ho m h 2) k) (hs : 0 ≤ pe m p 0 ∧ pe m p 0 ≤ 99) (j : Int) : (BsP m ss ln p h f j).1 ≤ 10000 :=
  swBest_b (fun hi pa => (gA_b (hb hi pa) hs).1) (fun hi pa j => wyF_A (aS_b (hb hi pa 4) hs).1) j
theorem BD_side {m : Int → Int} {b s : Int} (hB : BD m) (hb : 0 ≤ b ∧ b < m 3) (hs : 1 ≤ s ∧ s ≤ 9) : BD (setm m (20 + 5 * b + 2) s) := by
  obtain ⟨h3, h4, h5, h6, h7, h8, h9, h13, h14, hbk, hhp, hpp⟩ := hB
  have e : ∀ y, y ≠ 20 + 5 * b + 2 → setm m (20 + 5 * b + 2) s y = m y := fun y hy => setm_o _ hy
  refine ⟨by rw [e _ (by omega)]; exact h3, by rw [e _ (by omega)]; exact h4, by rw [e _ (by omega)]; exact h5, by rw [e _ (by omega)]; exact h6, by rw [e _ (by omega)]; exact h7, by rw [e _ (by omega)]; exact h8, by rw [e _ (by omega)]; exact h9, by rw [e _ (by omega)]; exact h13, by rw [e _ (by omega)]; exact h14, ?_, ?_, ?_⟩
  · intro c c0 c1
    rw [e _ (by omega)] at c1
    have g := hbk c c0 c1
    unfold bl at g ⊢
    rw [e (20 + 5 * c + 0) (by omega), e (20 + 5 * c + 1) (by omega), e (20 + 5 * c + 3) (by omega), e (20 + 5 * c + 4) (by omega)]
    refine ⟨g.1, g.2.1, ?_, g.2.2.2⟩
    by_cases q : c = b
    · rw [q, setm_s]; exact hs
    · rw [e _ (by omega)]; exact g.2.2.1
  · intro c c0 c1
    rw [e _ (by omega)] at c1
    have g := hhp c c0 c1
    unfold ho at g ⊢
    rw [e _ (by omega), e _ (by omega), e _ (by omega)]
    exact g
  · intro c c0 c1
    rw [e _ (by omega)] at c1
    have g := hpp c c0 c1
    unfold pe at g ⊢
    rw [e _ (by omega)]
    exact g
theorem vM_bl {I : Nat → Nat → Int32} {b j v : Int} (hB : BD (vM I)) (hb : (0 ≤ b ∧ b < vM I 3) ∧ 0 ≤ j ∧ j < 5) (hv : -2147483648 ≤ v ∧ v < 2147483648) : vM (u2 I 288 (ix (20 + 5 * b + j)) (w v)) = setm (vM I) (20 + 5 * b + j) v := by
  have h3 := hB.1
  have e3 : vM I 3 = mI I 3 := vM_s (by omega)
  rw [e3] at h3 hb
  have o : ∀ z, 0 ≤ z → z ≠ 20 + 5 * b + j → mI (u2 I 288 (ix (20 + 5 * b + j)) (w v)) z = mI I z := fun z hz h => by rw [mI_s (by omega) hv hz, if_neg h]
  funext z
  unfold setm
  by_cases c : z = 20 + 5 * b + j
  · rw [if_pos c]
    unfold vM
    rw [o 3 (by omega) (by omega), if_pos (by omega), mI_s (by omega) hv (by omega), if_pos c]
  · rw [if_neg c]
    unfold vM
    rw [o 3 (by omega) (by omega), o 4 (by omega) (by omega), o 5 (by omega) (by omega), o 13 (by omega) (by omega), o 14 (by omega) (by omega)]
    by_cases c1 : z = 0 ∨ (3 ≤ z ∧ z ≤ 11) ∨ (13 ≤ z ∧ z ≤ 15) ∨ (20 ≤ z ∧ z < 20 + 5 * mI I 3) ∨ (70 ≤ z ∧ z < 70 + 3 * mI I 4) ∨ (94 ≤ z ∧ z < 94 + 3 * mI I 5) ∨ (112 ≤ z ∧ z < 112 + 4 * mI I 13) ∨ (232 ≤ z ∧ z < 232 + 6 * mI I 14)
    · rw [if_pos c1, if_pos c1, o z (by omega) c]
    · rw [if_neg c1, if_neg c1]
def sdm (m : Int → Int) (b s : Int) : Int → Int := setm m (20 + 5 * b + 2) s
def lrgF (m : Int → Int) (o : Int → Int) (b : Int) : Nat → Int → Int
  | 0, _ => -1
  | k + 1, s => if 3 * o s * bl m b 3 ≤ 10000 * m 6 then s else lrgF m o b k (s + 1)
def vLarge (m : Int → Int) (ss : List Int) (ln p h f b : Int) : Int := lrgF m (fun s => (BsP (sdm m b s) ss ln p h f b).1) b 9 1
def cLrg (m : Int → Int) (p h f b : Int) : Int := if vPH m p h ∧ 0 ≤ b ∧ b < m 3 then (if 0 ≤ f ∧ f ≤ 59 then 0 else 2) else 1
section LRG
variable {vn vc vw : Nat} {K L : Nat → Nat} {R : Nat → Nat → Nat} {I : Nat → Nat → Int32} {J : Nat → Nat → Int64}
/-- what a query with a draft leaves alone in the class -/
def FY (I I' : Nat → Nat → Int32) : Prop := ∀ a k, (a < 273 ∨ 286 < a) → a ≠ 102 → (a = 91 → k < 6 ∨ 9 < k) → ¬(115 ≤ a ∧ a ≤ 126) → I' a k = I a k
theorem FY_rf {I : Nat → Nat → Int32} : FY I I := fun _ _ _ _ _ _ => rfl
theorem FY_tr {I I1 I2 : Nat → Nat → Int32} (h : FY I I1) (g : FY I1 I2) : FY I I2 := fun a k x y z u => (g a k x y z u).trans (h a k x y z u)
theorem FX_y {I I' : Nat → Nat → Int32} (h : FX I I') : FY I I' := fun a k x y z _ => h a k x y z
def RY (R R' : Nat → Nat → Nat) : Prop := ∀ a k, ¬(a = 273 ∧ k = 4) → ¬(a = 115 ∧ k = 10) → R' a k = R a k
theorem RA_y {R R' : Nat → Nat → Nat} (h : RA R R') : RY R R' := fun a k x _ => h a k x
theorem RY_tr {R R1 R2 : Nat → Nat → Nat} (h : RY R R1) (g : RY R1 R2) : RY R R2 := fun a k x y => (g a k x y).trans (h a k x y)
theorem XSH_y {R' : Nat → Nat → Nat} (h : RY R R') (hX : XSH K L R) : XSH K L R' := by
  have h' : ∀ a k, ¬(a = 273 ∧ k = 4) → ¬(a = 115 ∧ k = 10) → R' a k = R a k := h
  unfold XSH at hX ⊢
  simp (disch := omega) only [h']
  exact hX
theorem SHq_y {R' : Nat → Nat → Nat} {q : Nat} (hq : q + 11 < 273) (h : RY R R') (hS : SHq K L R q) : SHq K L R' q := by
  have h' : ∀ a k, ¬(a = 273 ∧ k = 4) → ¬(a = 115 ∧ k = 10) → R' a k = R a k := h
  unfold SHq at hS ⊢
  simp (disch := omega) only [h']
  exact hS
theorem MSH_y {R' : Nat → Nat → Nat} (h : RY R R') (hM : MSH K L R) : MSH K L R' := by
  have h' : ∀ a k, ¬(a = 273 ∧ k = 4) → ¬(a = 115 ∧ k = 10) → R' a k = R a k := h
  unfold MSH at hM ⊢
  simp (disch := omega) only [h']
  exact hM
theorem CQ_y {I' : Nat → Nat → Int32} {R' : Nat → Nat → Nat} {m : Int → Int} {ss : List Int} {ln mk mk' : Int} (h : FY I I') (hr : RY R R') (hA : ∃ ss' ln', AimOK K L R' I' ss' ln') (hO : OddsI I' mk') (g : CQ K L R I m ss ln mk) : CQ K L R' I' m ss ln mk' := by
  obtain ⟨g1, g2, g3, g4, g5, g6, g7, g8⟩ := g
  have e : R' 91 10 = R 91 10 := hr _ _ (by omega) (by omega)
  have h1 := g6.2.1.1
  refine ⟨XSH_y hr g1, SHq_y (by omega) hr g2, Wd_f' (fun a x => h _ _ (by omega) (by omega) (by omega) (by omega)) g3, ?_, g5, ?_, hA, hO⟩
  · rw [vS_f' (fun a k x1 x2 x3 => h _ _ (by omega) (by omega) (by omega) (by omega))]
    exact g4
  · rw [e]
    exact ALaw_f g6 (fun a b x => h _ _ (by omega) (by omega) (by omega) (by omega)) (hr _ _ (by omega) (by omega))
/-- what a call that only asks, by a draft, answers through the law's own wrapper -/
def XY (vn vc vw : Nat) (K L : Nat → Nat) (R : Nat → Nat → Nat) (I : Nat → Nat → Int32) (J : Nat → Nat → Int64) (m : Int → Int) (ss : List Int) (ln mk : Int) (res : Option Res) (c : Int) (v : Int32) : Prop :=
  (c ≠ 0 → res = some (.inl (some (.int (w c))), (((vn, vc + 1, vw + 6, K, L, R), I, J) : HS))) ∧
  (c = 0 → ∃ I' R' mk', res = some (.inl (some (.int (w 0))), (((vn, vc, vw, K, L, R'), I', u2 J 304 0 v.toInt64) : HS)) ∧ CQ K L R' I' m ss ln mk' ∧ (mk ≤ mk' ∧ mk' ≤ mk + 5000) ∧ FY I I' ∧ RY R R' ∧ Wd I' 115)
theorem XY_e {m : Int → Int} {ss : List Int} {ln mk c k : Int} {v : Int32} {res : Option Res} (hc : c = k) (hk : k ≠ 0) (h : res = some (.inl (some (.int (w k))), (((vn, vc + 1, vw + 6, K, L, R), I, J) : HS))) : XY vn vc vw K L R I J m ss ln mk res c v := ⟨fun _ => by rw [hc]; exact h, fun h0 => absurd (hc.symm.trans h0) hk⟩
theorem XY_o {m : Int → Int} {ss : List Int} {ln mk c : Int} {v : Int32} {res : Option Res} (hc : c = 0) (h : ∃ I' R' mk', res = some (.inl (some (.int (w 0))), (((vn, vc, vw, K, L, R'), I', u2 J 304 0 v.toInt64) : HS)) ∧ CQ K L R' I' m ss ln mk' ∧ (mk ≤ mk' ∧ mk' ≤ mk + 5000) ∧ FY I I' ∧ RY R R' ∧ Wd I' 115) : XY vn vc vw K L R I J m ss ln mk res c v := ⟨fun h0 => absurd hc h0, fun _ => h⟩
/-- the draft, with one who stands there -/
def DrI (K L : Nat → Nat) (R : Nat → Nat → Nat) (I : Nat → Nat → Int32) (m m0 : Int → Int) (ss : List Int) (ln p h f mk : Int) : Prop := XSH K L R ∧ SHq K L R 115 ∧ Wd I 115 ∧ vS I 115 = m ∧ BD m ∧ AimOK K L R I ss ln ∧ (I 274 0 = w p ∧ I 274 1 = w h ∧ I 274 2 = w f ∧ I 274 5 = w (pe m0 p 0) ∧ I 274 6 = w (pe m0 p 1) ∧ I 274 7 = w (ho m0 h 2)) ∧ OddsI I mk
theorem w_361 {d : Nat} {m : Int → Int} {ss : List Int} {ln mk p h f b : Int} (gJ : K 304 = 21 ∧ L 304 = 1) (hQ : CQ K L R I m ss ln mk) (hSd : SHq K L R 115) (hWe : Wd I 115) (hmk : mk + 6000 < 100000000) (hr : (-2147483648 ≤ p ∧ p < 2147483648) ∧ (-2147483648 ≤ h ∧ h < 2147483648) ∧ (-2147483648 ≤ f ∧ f < 2147483648) ∧ (-2147483648 ≤ b ∧ b < 2147483648)) :
    XY vn vc vw K L R I J m ss ln mk (ev PR (d + 11) 361 [.ref 79, .int (w p), .int (w h), .int (w f), .int (w b), .ref 304] (((vn, vc, vw, K, L, R), I, J) : HS)) (cLrg m p h f b) (w (vLarge m ss ln p h f b)) := by
  obtain ⟨hX, g2, g3, g4, g5, g6, ⟨ss', ln', g7⟩, g8⟩ := id hQ
  obtain ⟨k1, k2⟩ := gJ
  have hB3 := g5.1
  have hB4 := g5.2.1
  have hB5 := g5.2.2.1
  have hB6 := g5.2.2.2.1
  have hS := g2
  by_cases c1 : vPH m p h
  · by_cases c0 : 0 ≤ b ∧ b < m 3
    · by_cases c2 : 0 ≤ f ∧ f ≤ 59
      · unfold vPH at c1
        have hpp := g5.2.2.2.2.2.2.2.2.2.2.2 p c1.1.1 c1.1.2
        have hbb := g5.2.2.2.2.2.2.2.2.2.1 b c0.1 c0.2
        obtain ⟨I1, x1, v1, w1, f1⟩ := sp_104 (d := d + 7) (q0 := 115) (q1 := 91) (vn := vn) (vc := vc) (vw := vw) (J := J) hSd g2 g3 (by omega) (by rw [g4]; exact SzB_BD g5)
        rw [g4] at v1
        have f1' : ∀ a k, ¬(115 ≤ a ∧ a ≤ 125) → I1 a k = I a k := fun a k h => f1 a k (by omega)
        obtain ⟨R1, hR1⟩ : ∃ R1, R1 = u2 R 115 10 (R 91 10) := ⟨_, rfl⟩
        rw [← hR1] at x1
        have ry : RY R R1 := fun a k _ y => by rw [hR1, u2_r, if_neg y]
        have r10 : R1 115 10 = R 91 10 := by rw [hR1, u2_s]
        have A1 : AimOK K L R1 I1 ss' ln' := by
          obtain ⟨a1, a2, a3⟩ := g7
          have e : R1 273 4 = R 273 4 := by rw [hR1, u2_o _ _ _ _ (by decide)]
          have hl := a1.2.1.1
          refine ⟨?_, by rw [f1' _ _ (by omega)]; exact a2, fun z => ?_⟩
          · rw [e]; exact ALaw_f a1 (fun a k x => f1' _ _ (by omega)) (by rw [hR1, u2_o _ _ _ _ (by omega)])
          · rw [f1' _ _ (by omega)] at z
            intro k k1 k2
            rw [f1' _ _ (by omega)]
            have ee : (fun n => I1 274 (ix n)) = (fun n => I 274 (ix n)) := funext fun n => f1' _ _ (by omega)
            rw [ee]
            exact a3 z k k1 k2
        have gL1 : ALaw K L R1 I1 (R1 115 10) ss ln := by
          have hl := g6.2.1.1
          rw [r10]
          exact ALaw_f g6 (fun a k x => f1' _ _ (by omega)) (by rw [hR1, u2_o _ _ _ _ (by omega)])
        obtain ⟨I2, y1, y2, y3, y4⟩ := sp_1 (d := d + 6) (q := 115) (f := f) (I := I1) (R := R1) (p := p) (h := h) (vn := vn) (vc := vc) (vw := vw) (J := J) (XSH_y ry hX) (SHq_y (by omega) ry hSd) (by omega) (w1 hWe) (by rw [v1]; exact g5) A1 gL1 (by rw [v1]; exact c1.1) (by rw [v1]; exact c1.2)
        rw [v1] at y3
        obtain ⟨R2, hR2⟩ : ∃ R2, R2 = u2 R1 273 4 (R1 115 10) := ⟨_, rfl⟩
        rw [← hR2] at y1 y2
        have ra : RA R1 R2 := fun a k x => by rw [hR2, u2_r, if_neg x]
        have ry2 : RY R R2 := RY_tr ry (RA_y ra)
        have O2 : OddsI I2 mk := OddsI_f g8 (fun a k x => by rw [y4 a k (by omega), f1' a k (by omega)])
        have fy2 : FY I I2 := fun a k x y z u => by rw [y4 a k (by omega), f1' a k (by omega)]
        have D2 : DrI K L R2 I2 m m ss ln p h f mk := by
          refine ⟨XSH_y ry2 hX, SHq_y (by omega) ry2 hSd, ?_, ?_, g5, y2, ⟨y3.1, y3.2.1, y3.2.2.1, y3.2.2.2.2.2.1, y3.2.2.2.2.2.2.1, y3.2.2.2.2.2.2.2⟩, O2⟩
          · exact Wd_f' (fun a x => y4 _ _ (by omega)) (w1 hWe)
          · rw [vS_f' (fun a k x1 x2 x3 => y4 _ _ (by omega))]; exact v1
        have lp : ∀ (k : Nat) (s mk : Int) (I : Nat → Nat → Int32) (m' : Int → Int), 1 ≤ s → s + k = 10 → DrI K L R2 I m' m ss ln p h f mk → (∀ y, y ≠ 20 + 5 * b + 2 → m' y = m y) → mk + 100 * k + 200 < 100000000 → ∃ I' mk', atv PR (d + 8) cd_75 8 [.ref 283, .ref 115, .int (w b), .int (w (bl m b 3)), .int (w s)] [] (((vn, vc, vw, K, L, R2), I, J) : HS) = some (.inl (some (.int (w (lrgF m (fun s => (BsP (sdm m b s) ss ln p h f b).1) b k s)))), (((vn, vc, vw, K, L, R2), I', J) : HS)) ∧ (∃ m', DrI K L R2 I' m' m ss ln p h f mk') ∧ (mk ≤ mk' ∧ mk' ≤ mk + 100 * k) ∧ FY I I' := by
          intro k
          induction k with
          | zero =>
            intro s mk I m' hs hk hD hm hmk
            have es : s = 10 := by omega
            subst es
            refine ⟨I, mk, ?_, ⟨m', hD⟩, by omega, FY_rf⟩
            rw [eq_75_8]
            simp (disch := first | assumption | omega | (simp (disch := omega) only [vM_u, vS_u]; first | assumption | omega)) only [hK, hL, hR, hI, hN, sI, hSp, hC, hW, li, lr, ↓cnd_a, ↓cnd_o, ↓cnd_n, ↓cnd_d, ↓z0, ↓z1, ↓z2, y0n, y1i, y2r, y0e, y1e, y2e, wl_0, wl_1, wl_2, wl_3, wl_4, wl_5, wl_6, wl_7, wl_8, wl_9, wl_10, wl_11, wl_12, wl_13, wl_14, wl_15, wl_16, wl_17, wl_18, wl_19, wl_20, wl_21, wl_22, wl_23, wl_24, wl_25, wl_26, wl_27, wl_28, wl_29, wl_30, wl_31, wl_32, wl_33, wl_34, wl_35, wl_36, wl_37, wl_38, wl_39, wl_40, wl_41, wl_42, wl_43, wl_44, wl_45, wl_46, wl_47, wl_48, wl_49, wl_50, wl_51, wl_52, wl_53, wl_54, wl_55, wl_56, wl_57, wl_58, wl_59, wl_60, wl_61, wl_62, wl_63, wl_64, wl_65, wl_66, wl_67, wl_68, wl_69, wl_70, wl_71, wl_72, wl_73, wl_74, wl_75, wl_76, wl_77, wl_78, wl_79, wl_80, wl_81, wl_82, wl_83, wl_84, wl_85, wl_86, wl_87, wl_88, wl_89, wl_90, wl_91, wl_92, wl_93, wl_94, wl_95, wl_96, wl_97, wl_98, wl_99, wl_100, wl_101, wl_102, wl_103, wl_104, wl_105, wl_106, wl_107, wl_108, wl_109, wl_110, wl_111, wl_112, wl_113, wl_114, wl_115, wl_116, wl_117, wl_118, wl_119, wl_120, wl_121, wl_122, wl_123, wl_124, wl_125, wl_126, wl_127, wl_128, wl_129, wl_130, wl_159, wl_160, wl_200, wl_232, wl_255, wl_256, wl_300, wl_359, wl_360, wl_400, wl_592, wl_992, wl_999, wl_1000, wl_1024, wl_3456, wl_6512, wl_7104, wl_10000, wl_11264, wl_12345, wl_32767, wl_1000000000, wl_1103515245, wl_2000000000, w_add, w_sub, w_mul, w_neg, w_lt, w_le, w_eq, w_cl, w_in, w_nat, w_max2, w_min2, w_abs2, iltT, iltF, ileT, ileF, ieqT, ieqF, bv_01, bft, bv_0, bv_1, bv_t, bv_f, cond_true, cond_false, Bool.not_true, Bool.not_false, if_true, if_false, true_or, or_true, true_and, and_true, ↓reduceIte, decide_true, decide_false, reduceCtorEq, u2_s, u2_o, u2_k, u2_u2, Bool.true_or, Bool.or_true, Bool.false_or, Bool.or_false, Bool.and_true, Bool.true_and, Bool.and_false, Bool.false_and, eq_self, not_true_eq_false, not_false_eq_true, and_self, and_true, true_and, false_and, and_false, w_dv, dvm]
            rfl
          | succ k ih =>
            intro s mk I m' hs hk hD hm hmk
            obtain ⟨hX, d2, d3, d4, d5, d6, d7, d8⟩ := hD
            have hm3 : m' 3 = m 3 := hm 3 (by omega)
            have kb := (SHq_e d2).2.2.2.2.2.2.2.1.1
            have kq := (SHq_e d2).1
            have rq := (SHq_e d2).2.1
            have s97 := sp_97b (d := d + 7) (q := 115) (b := b) (j := 2) (v := w s) (vn := vn) (vc := vc) (vw := vw) (J := J) d2 d3 (by rw [d4, hm3]; omega)
            obtain ⟨I3, hI3⟩ : ∃ I3, I3 = u2 I 117 (ix (b * 5 + 2)) (w s) := ⟨_, rfl⟩
            rw [show (115 + 2 : Nat) = 117 from rfl, ← hI3] at s97
            have o3 : ∀ a k, a ≠ 117 → I3 a k = I a k := fun a k x => by rw [hI3, u2_o _ _ _ _ x]
            have v3 : vS I3 115 = sdm m b s := by
              have := put_b (f := I) (q := 115) (b := b) (j := 2) (v := s) (by rw [d4, hm3]; omega)
              rw [show (115 + 2 : Nat) = 117 from rfl, ← hI3, d4] at this
              rw [this]
              funext y
              unfold sdm setm
              by_cases c : y = 20 + 5 * b + 2
              · rw [if_pos c, if_pos c]
              · rw [if_neg c, if_neg c, hm y c]
            have A3 := AimOK_f d6 (fun a k x => o3 a k (by omega))
            have s50 := sp_50 (d := d + 7) (mk := mk) (I := I3) (vn := vn) (vc := vc) (vw := vw) (J := J) hX (by rw [o3 _ _ (by omega)]; exact d8.1)
            obtain ⟨I4, hI4⟩ : ∃ I4, I4 = u2 I3 277 1 (w (mk + 1)) := ⟨_, rfl⟩
            rw [← hI4] at s50
            have o4 : ∀ a k, a ≠ 277 → I4 a k = I3 a k := fun a k x => by rw [hI4, u2_o _ _ _ _ x]
            have O4 : OddsM I4 (mk + 1) (sdm m b s) := by
              have := OddsI_n (I' := I4) d8 (by omega) (by rw [hI4, u2_s]) (fun k => by rw [o4 _ _ (by omega), o3 _ _ (by omega)]) (sdm m b s) (I4 277 2).toInt (I4 277 3).toInt
              exact ⟨this.1, this.2⟩
            have A4 := AimOK_f A3 (fun a k x => o4 a k (by omega))
            have v4 : vS I4 115 = sdm m b s := by rw [hI4, vS_u (by omega)]; exact v3
            have w4 : Wd I4 115 := Wd_f' (fun a x => by rw [o4 _ _ (by omega), o3 _ _ (by omega)]) d3
            have p0 : pe (sdm m b s) p 0 = pe m p 0 := setm_o _ (by omega)
            have p1 : pe (sdm m b s) p 1 = pe m p 1 := setm_o _ (by omega)
            have p2 : ho (sdm m b s) h 2 = ho m h 2 := setm_o _ (by omega)
            have b4 : (sdm m b s) 4 = m 4 := setm_o _ (by omega)
            have b6 : (sdm m b s) 6 = m 6 := setm_o _ (by omega)
            have B4 : BD (sdm m b s) := BD_side g5 c0 (by omega)
            obtain ⟨I5, mk', l1, l2, l3, l4⟩ := sp_57 (d := d) (q := 115) (m := sdm m b s) (p := p) (h := h) (f := f) (sk := pe m p 0) (th := pe m p 1) (we := ho m h 2) (I := I4) (R := R2) (vn := vn) (vc := vc) (vw := vw) (J := J) hX d2 (by omega) (by omega) B4 hpp (by rw [b4]; exact c1.2) c2 A4 (by rw [o4 _ _ (by omega), o4 _ _ (by omega), o4 _ _ (by omega), o4 _ _ (by omega), o4 _ _ (by omega), o4 _ _ (by omega), o3 _ _ (by omega), o3 _ _ (by omega), o3 _ _ (by omega), o3 _ _ (by omega), o3 _ _ (by omega), o3 _ _ (by omega)]; exact d7) O4 v4 w4 (by omega)
            obtain ⟨t1, t2, t3, t4, t5, t6⟩ := l2
            have z := sp_59 (d := d + 7) (j := b) (k := 0) (vn := vn) (vc := vc) (vw := vw) (J := J) hX t6 (by omega) (by omega)
            rw [if_pos rfl] at z
            have eb : (swBest (gW (sdm m b s) ss ln p h f (pe m p 0) (pe m p 1) (ho m h 2)) (gA ss ln p h f (pe m p 0) (pe m p 1) (ho m h 2)) b).1 = (BsP (sdm m b s) ss ln p h f b).1 := by unfold BsP; rw [p0, p1, p2]
            rw [eb] at z
            have zb : 0 ≤ (BsP (sdm m b s) ss ln p h f b).1 := by rw [← eb]; exact (t6.2.2.2.1 b).1
            have zc : (BsP (sdm m b s) ss ln p h f b).1 ≤ 10000 := BsP_b (fun hi pa k => (evS_b gL1 _ k).1) (by rw [p0]; exact hpp) b
            obtain ⟨o, ho'⟩ : ∃ o, o = (BsP (sdm m b s) ss ln p h f b).1 := ⟨_, rfl⟩
            rw [← ho'] at z zb zc
            obtain ⟨pr, hpr⟩ : ∃ pr, pr = bl m b 3 := ⟨_, rfl⟩
            have hprb : 0 ≤ pr ∧ pr ≤ 999 := by rw [hpr]; exact hbb.2.2.2.1
            have i12 : I5 115 12 = w (m 6) := (rS_12 I5 115).trans (by rw [t4, b6])
            have bop : 0 ≤ o * pr ∧ o * pr ≤ 9990000 := ⟨Int.mul_nonneg zb hprb.1, Int.mul_le_mul zc hprb.2 hprb.1 (by omega)⟩
            have D5 : DrI K L R2 I5 (sdm m b s) m ss ln p h f mk' := ⟨hX, d2, t5, t4, B4, t1, t2, t3.1⟩
            have f35 : FY I I5 := fun a k x y z u => by rw [l4 a k (by omega) (by omega) (by omega), o4 a k (by omega), o3 a k (by omega)]
            have et : lrgF m (fun s => (BsP (sdm m b s) ss ln p h f b).1) b (k + 1) s = if 3 * o * pr ≤ 10000 * m 6 then s else lrgF m (fun s => (BsP (sdm m b s) ss ln p h f b).1) b k (s + 1) := by rw [ho', hpr]; rfl
            have e3 : 3 * o * pr = o * pr * 3 := by rw [Int.mul_assoc, Int.mul_comm 3]
            rw [et, e3, ← hpr]
            by_cases c3 : o * pr * 3 ≤ 10000 * m 6
            · rw [if_pos c3]
              refine ⟨I5, mk', ?_, ⟨_, D5⟩, by omega, f35⟩
              rw [eq_75_8]
              simp (disch := first | assumption | omega | (simp (disch := omega) only [vM_u, vS_u]; first | assumption | omega)) only [hK, hL, hR, hI, hN, sI, hSp, hC, hW, li, lr, ↓cnd_a, ↓cnd_o, ↓cnd_n, ↓cnd_d, ↓z0, ↓z1, ↓z2, y0n, y1i, y2r, y0e, y1e, y2e, wl_0, wl_1, wl_2, wl_3, wl_4, wl_5, wl_6, wl_7, wl_8, wl_9, wl_10, wl_11, wl_12, wl_13, wl_14, wl_15, wl_16, wl_17, wl_18, wl_19, wl_20, wl_21, wl_22, wl_23, wl_24, wl_25, wl_26, wl_27, wl_28, wl_29, wl_30, wl_31, wl_32, wl_33, wl_34, wl_35, wl_36, wl_37, wl_38, wl_39, wl_40, wl_41, wl_42, wl_43, wl_44, wl_45, wl_46, wl_47, wl_48, wl_49, wl_50, wl_51, wl_52, wl_53, wl_54, wl_55, wl_56, wl_57, wl_58, wl_59, wl_60, wl_61, wl_62, wl_63, wl_64, wl_65, wl_66, wl_67, wl_68, wl_69, wl_70, wl_71, wl_72, wl_73, wl_74, wl_75, wl_76, wl_77, wl_78, wl_79, wl_80, wl_81, wl_82, wl_83, wl_84, wl_85, wl_86, wl_87, wl_88, wl_89, wl_90, wl_91, wl_92, wl_93, wl_94, wl_95, wl_96, wl_97, wl_98, wl_99, wl_100, wl_101, wl_102, wl_103, wl_104, wl_105, wl_106, wl_107, wl_108, wl_109, wl_110, wl_111, wl_112, wl_113, wl_114, wl_115, wl_116, wl_117, wl_118, wl_119, wl_120, wl_121, wl_122, wl_123, wl_124, wl_125, wl_126, wl_127, wl_128, wl_129, wl_130, wl_159, wl_160, wl_200, wl_232, wl_255, wl_256, wl_300, wl_359, wl_360, wl_400, wl_592, wl_992, wl_999, wl_1000, wl_1024, wl_3456, wl_6512, wl_7104, wl_10000, wl_11264, wl_12345, wl_32767, wl_1000000000, wl_1103515245, wl_2000000000, w_add, w_sub, w_mul, w_neg, w_lt, w_le, w_eq, w_cl, w_in, w_nat, w_max2, w_min2, w_abs2, iltT, iltF, ileT, ileF, ieqT, ieqF, bv_01, bft, bv_0, bv_1, bv_t, bv_f, cond_true, cond_false, Bool.not_true, Bool.not_false, if_true, if_false, true_or, or_true, true_and, and_true, ↓reduceIte, decide_true, decide_false, reduceCtorEq, u2_s, u2_o, u2_k, u2_u2, Bool.true_or, Bool.or_true, Bool.false_or, Bool.or_false, Bool.and_true, Bool.true_and, Bool.and_false, Bool.false_and, eq_self, not_true_eq_false, not_false_eq_true, and_self, and_true, true_and, false_and, and_false, w_dv, dvm, XSH_e hX, kq, rq, kb, s97, s50, l1, z, i12]
            · rw [if_neg c3]
              obtain ⟨I', mk2, u1, u2', u3, u4⟩ := ih (s + 1) mk' I5 (sdm m b s) (by omega) (by omega) D5 (fun y hy => setm_o _ hy) (by omega)
              refine ⟨I', mk2, ?_, u2', by omega, FY_tr f35 u4⟩
              rw [hpr] at c3 bop ⊢
              rw [eq_75_8]
              simp (disch := first | assumption | omega | (simp (disch := omega) only [vM_u, vS_u]; first | assumption | omega)) only [hK, hL, hR, hI, hN, sI, hSp, hC, hW, li, lr, ↓cnd_a, ↓cnd_o, ↓cnd_n, ↓cnd_d, ↓z0, ↓z1, ↓z2, y0n, y1i, y2r, y0e, y1e, y2e, wl_0, wl_1, wl_2, wl_3, wl_4, wl_5, wl_6, wl_7, wl_8, wl_9, wl_10, wl_11, wl_12, wl_13, wl_14, wl_15, wl_16, wl_17, wl_18, wl_19, wl_20, wl_21, wl_22, wl_23, wl_24, wl_25, wl_26, wl_27, wl_28, wl_29, wl_30, wl_31, wl_32, wl_33, wl_34, wl_35, wl_36, wl_37, wl_38, wl_39, wl_40, wl_41, wl_42, wl_43, wl_44, wl_45, wl_46, wl_47, wl_48, wl_49, wl_50, wl_51, wl_52, wl_53, wl_54, wl_55, wl_56, wl_57, wl_58, wl_59, wl_60, wl_61, wl_62, wl_63, wl_64, wl_65, wl_66, wl_67, wl_68, wl_69, wl_70, wl_71, wl_72, wl_73, wl_74, wl_75, wl_76, wl_77, wl_78, wl_79, wl_80, wl_81, wl_82, wl_83, wl_84, wl_85, wl_86, wl_87, wl_88, wl_89, wl_90, wl_91, wl_92, wl_93, wl_94, wl_95, wl_96, wl_97, wl_98, wl_99, wl_100, wl_101, wl_102, wl_103, wl_104, wl_105, wl_106, wl_107, wl_108, wl_109, wl_110, wl_111, wl_112, wl_113, wl_114, wl_115, wl_116, wl_117, wl_118, wl_119, wl_120, wl_121, wl_122, wl_123, wl_124, wl_125, wl_126, wl_127, wl_128, wl_129, wl_130, wl_159, wl_160, wl_200, wl_232, wl_255, wl_256, wl_300, wl_359, wl_360, wl_400, wl_592, wl_992, wl_999, wl_1000, wl_1024, wl_3456, wl_6512, wl_7104, wl_10000, wl_11264, wl_12345, wl_32767, wl_1000000000, wl_1103515245, wl_2000000000, w_add, w_sub, w_mul, w_neg, w_lt, w_le, w_eq, w_cl, w_in, w_nat, w_max2, w_min2, w_abs2, iltT, iltF, ileT, ileF, ieqT, ieqF, bv_01, bft, bv_0, bv_1, bv_t, bv_f, cond_true, cond_false, Bool.not_true, Bool.not_false, if_true, if_false, true_or, or_true, true_and, and_true, ↓reduceIte, decide_true, decide_false, reduceCtorEq, u2_s, u2_o, u2_k, u2_u2, Bool.true_or, Bool.or_true, Bool.false_or, Bool.or_false, Bool.and_true, Bool.true_and, Bool.and_false, Bool.false_and, eq_self, not_true_eq_false, not_false_eq_true, and_self, and_true, true_and, false_and, and_false, w_dv, dvm, XSH_e hX, kq, rq, kb, s97, s50, l1, z, i12, u1]
        obtain ⟨I', mk', l1, ⟨m', l2⟩, l3, l4⟩ := lp 9 1 mk I2 m (by omega) (by omega) D2 (fun _ _ => rfl) (by omega)
        have s96 := sp_96b (d := d + 7) (q := 115) (b := b) (j := 3) (I := I2) (R := R2) (vn := vn) (vc := vc) (vw := vw) (J := J) D2.2.1 D2.2.2.1 (by rw [D2.2.2.2.1]; omega)
        rw [D2.2.2.2.1] at s96
        have hX' := D2.1
        have hS' := D2.2.1
        have hXa : XSH K L R1 := XSH_y ry hX
        have q1 := (SHq_e hSd).1
        have q2 := (SHq_e D2.2.1).2.1
        have q3 := (SHq_e D2.2.1).2.2.2.2.2.2.2.1.1
        have fyt : FY I I' := FY_tr fy2 l4
        refine XY_o (by unfold cLrg; rw [if_pos ⟨by unfold vPH; exact c1, c0⟩, if_pos c2]) ⟨I', R2, mk', ?_, CQ_y fyt ry2 ⟨_, _, l2.2.2.2.2.2.1⟩ l2.2.2.2.2.2.2.2 hQ, by omega, fyt, ry2, l2.2.2.1⟩
        unfold vLarge
        have s206 := x_208t (d := d + 7) (b := b) (vn := vn) (vc := vc) (vw := vw) (J := J) hX hS (by rw [g4]; omega)
        have s207 := x_209t (d := d + 7) (b := h) (vn := vn) (vc := vc) (vw := vw) (J := J) hX hS (by rw [g4]; omega)
        have s208 := x_210t (d := d + 7) (b := p) (vn := vn) (vc := vc) (vw := vw) (J := J) hX hS (by rw [g4]; omega)
        rw [eq_361, eq_188]
        simp (disch := first | assumption | omega | (simp (disch := omega) only [vM_u, vS_u]; first | assumption | omega)) only [hK, hL, hR, hI, hN, sI, hSp, hC, hW, li, lr, ↓cnd_a, ↓cnd_o, ↓cnd_n, ↓cnd_d, ↓z0, ↓z1, ↓z2, y0n, y1i, y2r, y0e, y1e, y2e, wl_0, wl_1, wl_2, wl_3, wl_4, wl_5, wl_6, wl_7, wl_8, wl_9, wl_10, wl_11, wl_12, wl_13, wl_14, wl_15, wl_16, wl_17, wl_18, wl_19, wl_20, wl_21, wl_22, wl_23, wl_24, wl_25, wl_26, wl_27, wl_28, wl_29, wl_30, wl_31, wl_32, wl_33, wl_34, wl_35, wl_36, wl_37, wl_38, wl_39, wl_40, wl_41, wl_42, wl_43, wl_44, wl_45, wl_46, wl_47, wl_48, wl_49, wl_50, wl_51, wl_52, wl_53, wl_54, wl_55, wl_56, wl_57, wl_58, wl_59, wl_60, wl_61, wl_62, wl_63, wl_64, wl_65, wl_66, wl_67, wl_68, wl_69, wl_70, wl_71, wl_72, wl_73, wl_74, wl_75, wl_76, wl_77, wl_78, wl_79, wl_80, wl_81, wl_82, wl_83, wl_84, wl_85, wl_86, wl_87, wl_88, wl_89, wl_90, wl_91, wl_92, wl_93, wl_94, wl_95, wl_96, wl_97, wl_98, wl_99, wl_100, wl_101, wl_102, wl_103, wl_104, wl_105, wl_106, wl_107, wl_108, wl_109, wl_110, wl_111, wl_112, wl_113, wl_114, wl_115, wl_116, wl_117, wl_118, wl_119, wl_120, wl_121, wl_122, wl_123, wl_124, wl_125, wl_126, wl_127, wl_128, wl_129, wl_130, wl_159, wl_160, wl_200, wl_232, wl_255, wl_256, wl_300, wl_359, wl_360, wl_400, wl_592, wl_992, wl_999, wl_1000, wl_1024, wl_3456, wl_6512, wl_7104, wl_10000, wl_11264, wl_12345, wl_32767, wl_1000000000, wl_1103515245, wl_2000000000, w_add, w_sub, w_mul, w_neg, w_lt, w_le, w_eq, w_cl, w_in, w_nat, w_max2, w_min2, w_abs2, iltT, iltF, ileT, ileF, ieqT, ieqF, bv_01, bft, bv_0, bv_1, bv_t, bv_f, cond_true, cond_false, Bool.not_true, Bool.not_false, if_true, if_false, true_or, or_true, true_and, and_true, ↓reduceIte, decide_true, decide_false, reduceCtorEq, u2_s, u2_o, u2_k, u2_u2, Bool.true_or, Bool.or_true, Bool.false_or, Bool.or_false, Bool.and_true, Bool.true_and, Bool.and_false, Bool.false_and, eq_self, not_true_eq_false, not_false_eq_true, and_self, and_true, true_and, false_and, and_false, w_dv, dvm, sJ, k1, k2, XSH_e hX, s206, s207, s208, x_212t hX, q1, x1, XSH_e hXa, y1, XSH_e hX', SHq_e hS', eq_75, s96, l1]
        all_goals rfl
      · refine XY_e (k := 2) (by unfold cLrg; rw [if_pos ⟨c1, c0⟩, if_neg c2]) (by decide) ?_
        unfold vPH at c1
        subst g4
        rw [eq_361, eq_188]
        simp (disch := first | assumption | omega | (simp (disch := omega) only [vM_u, vS_u]; first | assumption | omega)) only [hK, hL, hR, hI, hN, sI, hSp, hC, hW, li, lr, ↓cnd_a, ↓cnd_o, ↓cnd_n, ↓cnd_d, ↓z0, ↓z1, ↓z2, y0n, y1i, y2r, y0e, y1e, y2e, wl_0, wl_1, wl_2, wl_3, wl_4, wl_5, wl_6, wl_7, wl_8, wl_9, wl_10, wl_11, wl_12, wl_13, wl_14, wl_15, wl_16, wl_17, wl_18, wl_19, wl_20, wl_21, wl_22, wl_23, wl_24, wl_25, wl_26, wl_27, wl_28, wl_29, wl_30, wl_31, wl_32, wl_33, wl_34, wl_35, wl_36, wl_37, wl_38, wl_39, wl_40, wl_41, wl_42, wl_43, wl_44, wl_45, wl_46, wl_47, wl_48, wl_49, wl_50, wl_51, wl_52, wl_53, wl_54, wl_55, wl_56, wl_57, wl_58, wl_59, wl_60, wl_61, wl_62, wl_63, wl_64, wl_65, wl_66, wl_67, wl_68, wl_69, wl_70, wl_71, wl_72, wl_73, wl_74, wl_75, wl_76, wl_77, wl_78, wl_79, wl_80, wl_81, wl_82, wl_83, wl_84, wl_85, wl_86, wl_87, wl_88, wl_89, wl_90, wl_91, wl_92, wl_93, wl_94, wl_95, wl_96, wl_97, wl_98, wl_99, wl_100, wl_101, wl_102, wl_103, wl_104, wl_105, wl_106, wl_107, wl_108, wl_109, wl_110, wl_111, wl_112, wl_113, wl_114, wl_115, wl_116, wl_117, wl_118, wl_119, wl_120, wl_121, wl_122, wl_123, wl_124, wl_125, wl_126, wl_127, wl_128, wl_129, wl_130, wl_159, wl_160, wl_200, wl_232, wl_255, wl_256, wl_300, wl_359, wl_360, wl_400, wl_592, wl_992, wl_999, wl_1000, wl_1024, wl_3456, wl_6512, wl_7104, wl_10000, wl_11264, wl_12345, wl_32767, wl_1000000000, wl_1103515245, wl_2000000000, w_add, w_sub, w_mul, w_neg, w_lt, w_le, w_eq, w_cl, w_in, w_nat, w_max2, w_min2, w_abs2, iltT, iltF, ileT, ileF, ieqT, ieqF, bv_01, bft, bv_0, bv_1, bv_t, bv_f, cond_true, cond_false, Bool.not_true, Bool.not_false, if_true, if_false, true_or, or_true, true_and, and_true, ↓reduceIte, decide_true, decide_false, reduceCtorEq, u2_s, u2_o, u2_k, u2_u2, Bool.true_or, Bool.or_true, Bool.false_or, Bool.or_false, Bool.and_true, Bool.true_and, Bool.and_false, Bool.false_and, eq_self, not_true_eq_false, not_false_eq_true, and_self, and_true, true_and, false_and, and_false, w_dv, dvm, XSH_e hX, x_209t hX hS, x_210t hX hS, x_208t hX hS, x_212f hX]
        all_goals rfl
    · refine XY_e (k := 1) (by unfold cLrg; rw [if_neg (fun z => c0 z.2)]) (by decide) ?_
      unfold vPH at c1
      subst g4
      rw [eq_361, eq_188]
      simp (disch := first | assumption | omega | (simp (disch := omega) only [vM_u, vS_u]; first | assumption | omega)) only [hK, hL, hR, hI, hN, sI, hSp, hC, hW, li, lr, ↓cnd_a, ↓cnd_o, ↓cnd_n, ↓cnd_d, ↓z0, ↓z1, ↓z2, y0n, y1i, y2r, y0e, y1e, y2e, wl_0, wl_1, wl_2, wl_3, wl_4, wl_5, wl_6, wl_7, wl_8, wl_9, wl_10, wl_11, wl_12, wl_13, wl_14, wl_15, wl_16, wl_17, wl_18, wl_19, wl_20, wl_21, wl_22, wl_23, wl_24, wl_25, wl_26, wl_27, wl_28, wl_29, wl_30, wl_31, wl_32, wl_33, wl_34, wl_35, wl_36, wl_37, wl_38, wl_39, wl_40, wl_41, wl_42, wl_43, wl_44, wl_45, wl_46, wl_47, wl_48, wl_49, wl_50, wl_51, wl_52, wl_53, wl_54, wl_55, wl_56, wl_57, wl_58, wl_59, wl_60, wl_61, wl_62, wl_63, wl_64, wl_65, wl_66, wl_67, wl_68, wl_69, wl_70, wl_71, wl_72, wl_73, wl_74, wl_75, wl_76, wl_77, wl_78, wl_79, wl_80, wl_81, wl_82, wl_83, wl_84, wl_85, wl_86, wl_87, wl_88, wl_89, wl_90, wl_91, wl_92, wl_93, wl_94, wl_95, wl_96, wl_97, wl_98, wl_99, wl_100, wl_101, wl_102, wl_103, wl_104, wl_105, wl_106, wl_107, wl_108, wl_109, wl_110, wl_111, wl_112, wl_113, wl_114, wl_115, wl_116, wl_117, wl_118, wl_119, wl_120, wl_121, wl_122, wl_123, wl_124, wl_125, wl_126, wl_127, wl_128, wl_129, wl_130, wl_159, wl_160, wl_200, wl_232, wl_255, wl_256, wl_300, wl_359, wl_360, wl_400, wl_592, wl_992, wl_999, wl_1000, wl_1024, wl_3456, wl_6512, wl_7104, wl_10000, wl_11264, wl_12345, wl_32767, wl_1000000000, wl_1103515245, wl_2000000000, w_add, w_sub, w_mul, w_neg, w_lt, w_le, w_eq, w_cl, w_in, w_nat, w_max2, w_min2, w_abs2, iltT, iltF, ileT, ileF, ieqT, ieqF, bv_01, bft, bv_0, bv_1, bv_t, bv_f, cond_true, cond_false, Bool.not_true, Bool.not_false, if_true, if_false, true_or, or_true, true_and, and_true, ↓reduceIte, decide_true, decide_false, reduceCtorEq, u2_s, u2_o, u2_k, u2_u2, Bool.true_or, Bool.or_true, Bool.false_or, Bool.or_false, Bool.and_true, Bool.true_and, Bool.and_false, Bool.false_and, eq_self, not_true_eq_false, not_false_eq_true, and_self, and_true, true_and, false_and, and_false, w_dv, dvm, XSH_e hX, x_209t hX hS, x_210t hX hS, x_208f hX hS]
      all_goals rfl
  · refine XY_e (k := 1) (by unfold cLrg; rw [if_neg (fun z => c1 z.1)]) (by decide) ?_
    unfold vPH at c1
    subst g4
    rw [eq_361, eq_188]
    by_cases c2 : 0 ≤ p ∧ p < vS I 91 5
    · simp (disch := first | assumption | omega | (simp (disch := omega) only [vM_u, vS_u]; first | assumption | omega)) only [hK, hL, hR, hI, hN, sI, hSp, hC, hW, li, lr, ↓cnd_a, ↓cnd_o, ↓cnd_n, ↓cnd_d, ↓z0, ↓z1, ↓z2, y0n, y1i, y2r, y0e, y1e, y2e, wl_0, wl_1, wl_2, wl_3, wl_4, wl_5, wl_6, wl_7, wl_8, wl_9, wl_10, wl_11, wl_12, wl_13, wl_14, wl_15, wl_16, wl_17, wl_18, wl_19, wl_20, wl_21, wl_22, wl_23, wl_24, wl_25, wl_26, wl_27, wl_28, wl_29, wl_30, wl_31, wl_32, wl_33, wl_34, wl_35, wl_36, wl_37, wl_38, wl_39, wl_40, wl_41, wl_42, wl_43, wl_44, wl_45, wl_46, wl_47, wl_48, wl_49, wl_50, wl_51, wl_52, wl_53, wl_54, wl_55, wl_56, wl_57, wl_58, wl_59, wl_60, wl_61, wl_62, wl_63, wl_64, wl_65, wl_66, wl_67, wl_68, wl_69, wl_70, wl_71, wl_72, wl_73, wl_74, wl_75, wl_76, wl_77, wl_78, wl_79, wl_80, wl_81, wl_82, wl_83, wl_84, wl_85, wl_86, wl_87, wl_88, wl_89, wl_90, wl_91, wl_92, wl_93, wl_94, wl_95, wl_96, wl_97, wl_98, wl_99, wl_100, wl_101, wl_102, wl_103, wl_104, wl_105, wl_106, wl_107, wl_108, wl_109, wl_110, wl_111, wl_112, wl_113, wl_114, wl_115, wl_116, wl_117, wl_118, wl_119, wl_120, wl_121, wl_122, wl_123, wl_124, wl_125, wl_126, wl_127, wl_128, wl_129, wl_130, wl_159, wl_160, wl_200, wl_232, wl_255, wl_256, wl_300, wl_359, wl_360, wl_400, wl_592, wl_992, wl_999, wl_1000, wl_1024, wl_3456, wl_6512, wl_7104, wl_10000, wl_11264, wl_12345, wl_32767, wl_1000000000, wl_1103515245, wl_2000000000, w_add, w_sub, w_mul, w_neg, w_lt, w_le, w_eq, w_cl, w_in, w_nat, w_max2, w_min2, w_abs2, iltT, iltF, ileT, ileF, ieqT, ieqF, bv_01, bft, bv_0, bv_1, bv_t, bv_f, cond_true, cond_false, Bool.not_true, Bool.not_false, if_true, if_false, true_or, or_true, true_and, and_true, ↓reduceIte, decide_true, decide_false, reduceCtorEq, u2_s, u2_o, u2_k, u2_u2, Bool.true_or, Bool.or_true, Bool.false_or, Bool.or_false, Bool.and_true, Bool.true_and, Bool.and_false, Bool.false_and, eq_self, not_true_eq_false, not_false_eq_true, and_self, and_true, true_and, false_and, and_false, w_dv, dvm, XSH_e hX, x_209f hX hS, x_210t hX hS]
      all_goals rfl
    · simp (disch := first | assumption | omega | (simp (disch := omega) only [vM_u, vS_u]; first | assumption | omega)) only [hK, hL, hR, hI, hN, sI, hSp, hC, hW, li, lr, ↓cnd_a, ↓cnd_o, ↓cnd_n, ↓cnd_d, ↓z0, ↓z1, ↓z2, y0n, y1i, y2r, y0e, y1e, y2e, wl_0, wl_1, wl_2, wl_3, wl_4, wl_5, wl_6, wl_7, wl_8, wl_9, wl_10, wl_11, wl_12, wl_13, wl_14, wl_15, wl_16, wl_17, wl_18, wl_19, wl_20, wl_21, wl_22, wl_23, wl_24, wl_25, wl_26, wl_27, wl_28, wl_29, wl_30, wl_31, wl_32, wl_33, wl_34, wl_35, wl_36, wl_37, wl_38, wl_39, wl_40, wl_41, wl_42, wl_43, wl_44, wl_45, wl_46, wl_47, wl_48, wl_49, wl_50, wl_51, wl_52, wl_53, wl_54, wl_55, wl_56, wl_57, wl_58, wl_59, wl_60, wl_61, wl_62, wl_63, wl_64, wl_65, wl_66, wl_67, wl_68, wl_69, wl_70, wl_71, wl_72, wl_73, wl_74, wl_75, wl_76, wl_77, wl_78, wl_79, wl_80, wl_81, wl_82, wl_83, wl_84, wl_85, wl_86, wl_87, wl_88, wl_89, wl_90, wl_91, wl_92, wl_93, wl_94, wl_95, wl_96, wl_97, wl_98, wl_99, wl_100, wl_101, wl_102, wl_103, wl_104, wl_105, wl_106, wl_107, wl_108, wl_109, wl_110, wl_111, wl_112, wl_113, wl_114, wl_115, wl_116, wl_117, wl_118, wl_119, wl_120, wl_121, wl_122, wl_123, wl_124, wl_125, wl_126, wl_127, wl_128, wl_129, wl_130, wl_159, wl_160, wl_200, wl_232, wl_255, wl_256, wl_300, wl_359, wl_360, wl_400, wl_592, wl_992, wl_999, wl_1000, wl_1024, wl_3456, wl_6512, wl_7104, wl_10000, wl_11264, wl_12345, wl_32767, wl_1000000000, wl_1103515245, wl_2000000000, w_add, w_sub, w_mul, w_neg, w_lt, w_le, w_eq, w_cl, w_in, w_nat, w_max2, w_min2, w_abs2, iltT, iltF, ileT, ileF, ieqT, ieqF, bv_01, bft, bv_0, bv_1, bv_t, bv_f, cond_true, cond_false, Bool.not_true, Bool.not_false, if_true, if_false, true_or, or_true, true_and, and_true, ↓reduceIte, decide_true, decide_false, reduceCtorEq, u2_s, u2_o, u2_k, u2_u2, Bool.true_or, Bool.or_true, Bool.false_or, Bool.or_false, Bool.and_true, Bool.true_and, Bool.and_false, Bool.false_and, eq_self, not_true_eq_false, not_false_eq_true, and_self, and_true, true_and, false_and, and_false, w_dv, dvm, XSH_e hX, x_210f hX hS]
      all_goals rfl
theorem QR_z {I : Nat → Nat → Int32} {m : Int → Int} {ss : List Int} {ln b s : Int} (g : QR K L R I m ss ln) (hb : 0 ≤ b ∧ b < m 3) (hs : 1 ≤ s ∧ s ≤ 9) : QR K L R (u2 I 288 (ix (20 + 5 * b + 2)) (w s)) (sdm m b s) ss ln := by
  obtain ⟨g1, g2, g3, g4, g5, g6⟩ := g
  have h3 := g5.1
  refine ⟨g1, SWA_f (fun a k x => u2_o _ _ _ _ (by omega)) g2, RLaw_f (fun k hk => u2_k _ _ _ _ (by unfold ix; omega)) g3, ?_, BD_side g5 hb hs, by rw [u2_o _ _ _ _ (by decide)]; exact g6⟩
  rw [vM_bl (by rw [g4]; exact g5) (by rw [g4]; omega) (by omega), g4]
  rfl
theorem m_306 {d : Nat} {m : Int → Int} {ss : List Int} {ln p h f b : Int} (hQ : QR K L R I m ss ln) (hr : (-2147483648 ≤ p ∧ p < 2147483648) ∧ (-2147483648 ≤ h ∧ h < 2147483648) ∧ (-2147483648 ≤ f ∧ f < 2147483648) ∧ (-2147483648 ≤ b ∧ b < 2147483648)) :
    XM vn vc vw K L R I J m ss ln (ev PR (d + 37) 306 [.ref 287, .int (w p), .int (w h), .int (w f), .int (w b)] (((vn, vc, vw, K, L, R), I, J) : HS)) (cLrg m p h f b) (w (vLarge m ss ln p h f b)) := by
  obtain ⟨hM, g2, g3, g4, g5, g6⟩ := id hQ
  have hB3 := g5.1
  have hB4 := g5.2.1
  have hB5 := g5.2.2.1
  have hB6 := g5.2.2.2.1
  by_cases c1 : vPH m p h
  · by_cases c0 : 0 ≤ b ∧ b < m 3
    · by_cases c2 : 0 ≤ f ∧ f ≤ 59
      · unfold vPH at c1
        have hpp := g5.2.2.2.2.2.2.2.2.2.2.2 p c1.1.1 c1.1.2
        have hbb := g5.2.2.2.2.2.2.2.2.2.1 b c0.1 c0.2
        have ek : (ix b : Int) = b := by unfold ix; omega
        obtain ⟨was, hwas⟩ : ∃ was, was = bl m b 2 := ⟨_, rfl⟩
        have hwb : 1 ≤ was ∧ was ≤ 9 := by rw [hwas]; exact hbb.2.2.1
        have fin : ∀ (I2 : Nat → Nat → Int32) (m' : Int → Int) (I0 : Nat → Nat → Int32), QR K L R I2 m' ss ln → (∀ y, y ≠ 20 + 5 * b + 2 → m' y = m y) → (∀ a k, (a < 287 ∨ (287 < a ∧ a < 293) ∨ 304 ≤ a ∨ (a = 287 ∧ (k < 9 ∨ k = 12))) → ¬(a = 288 ∧ k = ix (20 + 5 * b + 2)) → I2 a k = I0 a k) → I0 288 (ix (20 + 5 * b + 2)) = w was → FQ I0 (u2 I2 288 (ix (20 + 5 * b + 2)) (w was)) ∧ QR K L R (u2 I2 288 (ix (20 + 5 * b + 2)) (w was)) m ss ln := by
          intro I2 m' I0 hQ2 hm hf h0
          have m3 : m' 3 = m 3 := hm 3 (by omega)
          have q := QR_z (s := was) hQ2 (by rw [m3]; exact c0) hwb
          have e : sdm m' b was = m := by
            funext y
            unfold sdm setm
            by_cases c : y = 20 + 5 * b + 2
            · rw [if_pos c, c, hwas]; rfl
            · rw [if_neg c, hm y c]
          rw [e] at q
          refine ⟨fun a k x => ?_, q⟩
          rw [u2_r]
          by_cases c : a = 288 ∧ k = ix (20 + 5 * b + 2)
          · rw [if_pos c, c.1, c.2, h0]
          · rw [if_neg c, hf a k x c]
        have lp : ∀ (k : Nat) (s : Int) (I I0 : Nat → Nat → Int32) (m' : Int → Int), 1 ≤ s → s + k = 10 → QR K L R I m' ss ln → (∀ y, y ≠ 20 + 5 * b + 2 → m' y = m y) → (∀ a k, (a < 287 ∨ (287 < a ∧ a < 293) ∨ 304 ≤ a ∨ (a = 287 ∧ (k < 9 ∨ k = 12))) → ¬(a = 288 ∧ k = ix (20 + 5 * b + 2)) → I a k = I0 a k) → I0 288 (ix (20 + 5 * b + 2)) = w was → ∃ I', atv PR (d + 36) cd_306 38 [.ref 287, .int (w p), .int (w h), .int (w f), .int (w b), .int (w was), .int (w (-1)), .int (w s)] [] (((vn, vc, vw, K, L, R), I, J) : HS) = some (.inl (some (.int (w (lrgF m (fun s => (BsP (sdm m b s) ss ln p h f b).1) b k s)))), (((vn, vc, vw, K, L, R), I', J) : HS)) ∧ FQ I0 I' ∧ QR K L R I' m ss ln := by
          intro k
          induction k with
          | zero =>
            intro s I I0 m' hs hk hQ hm hf h0
            have hM := hQ.1
            have es : s = 10 := by omega
            subst es
            obtain ⟨f1, f2⟩ := fin I m' I0 hQ hm hf h0
            refine ⟨_, ?_, f1, f2⟩
            rw [eq_306_38]
            simp (disch := first | assumption | omega | (simp (disch := omega) only [vM_u, vS_u]; first | assumption | omega)) only [hK, hL, hR, hI, hN, sI, hSp, hC, hW, li, lr, ↓cnd_a, ↓cnd_o, ↓cnd_n, ↓cnd_d, ↓z0, ↓z1, ↓z2, y0n, y1i, y2r, y0e, y1e, y2e, wl_0, wl_1, wl_2, wl_3, wl_4, wl_5, wl_6, wl_7, wl_8, wl_9, wl_10, wl_11, wl_12, wl_13, wl_14, wl_15, wl_16, wl_17, wl_18, wl_19, wl_20, wl_21, wl_22, wl_23, wl_24, wl_25, wl_26, wl_27, wl_28, wl_29, wl_30, wl_31, wl_32, wl_33, wl_34, wl_35, wl_36, wl_37, wl_38, wl_39, wl_40, wl_41, wl_42, wl_43, wl_44, wl_45, wl_46, wl_47, wl_48, wl_49, wl_50, wl_51, wl_52, wl_53, wl_54, wl_55, wl_56, wl_57, wl_58, wl_59, wl_60, wl_61, wl_62, wl_63, wl_64, wl_65, wl_66, wl_67, wl_68, wl_69, wl_70, wl_71, wl_72, wl_73, wl_74, wl_75, wl_76, wl_77, wl_78, wl_79, wl_80, wl_81, wl_82, wl_83, wl_84, wl_85, wl_86, wl_87, wl_88, wl_89, wl_90, wl_91, wl_92, wl_93, wl_94, wl_95, wl_96, wl_97, wl_98, wl_99, wl_100, wl_101, wl_102, wl_103, wl_104, wl_105, wl_106, wl_107, wl_108, wl_109, wl_110, wl_111, wl_112, wl_113, wl_114, wl_115, wl_116, wl_117, wl_118, wl_119, wl_120, wl_121, wl_122, wl_123, wl_124, wl_125, wl_126, wl_127, wl_128, wl_129, wl_130, wl_159, wl_160, wl_200, wl_232, wl_255, wl_256, wl_300, wl_359, wl_360, wl_400, wl_592, wl_992, wl_999, wl_1000, wl_1024, wl_3456, wl_6512, wl_7104, wl_10000, wl_11264, wl_12345, wl_32767, wl_1000000000, wl_1103515245, wl_2000000000, w_add, w_sub, w_mul, w_neg, w_lt, w_le, w_eq, w_cl, w_in, w_nat, w_max2, w_min2, w_abs2, iltT, iltF, ileT, ileF, ieqT, ieqF, bv_01, bft, bv_0, bv_1, bv_t, bv_f, cond_true, cond_false, Bool.not_true, Bool.not_false, if_true, if_false, true_or, or_true, true_and, and_true, ↓reduceIte, decide_true, decide_false, reduceCtorEq, u2_s, u2_o, u2_k, u2_u2, Bool.true_or, Bool.or_true, Bool.false_or, Bool.or_false, Bool.and_true, Bool.true_and, Bool.and_false, Bool.false_and, eq_self, not_true_eq_false, not_false_eq_true, and_self, and_true, true_and, false_and, and_false, w_dv, dvm, MSH_e hM]
            rfl
          | succ k ih =>
            intro s I I0 m' hs hk hQ hm hf h0
            have hM := hQ.1
            have m3 : m' 3 = m 3 := hm 3 (by omega)
            have Q1 := QR_z (s := s) hQ (by rw [m3]; exact c0) (by omega)
            have e1 : sdm m' b s = sdm m b s := by
              funext y
              unfold sdm setm
              by_cases c : y = 20 + 5 * b + 2
              · rw [if_pos c, if_pos c]
              · rw [if_neg c, if_neg c, hm y c]
            rw [e1] at Q1
            have p0 : pe (sdm m b s) p 0 = pe m p 0 := setm_o _ (by omega)
            have p3 : bl (sdm m b s) b 3 = bl m b 3 := setm_o _ (by omega)
            have b3 : (sdm m b s) 3 = m 3 := setm_o _ (by omega)
            have b4 : (sdm m b s) 4 = m 4 := setm_o _ (by omega)
            have b5 : (sdm m b s) 5 = m 5 := setm_o _ (by omega)
            have b6 : (sdm m b s) 6 = m 6 := setm_o _ (by omega)
            obtain ⟨I2, x1, x2, x3, x4, x5⟩ := sp_298 (d := d) (p := p) (h := h) (f := f) (sk := pe (sdm m b s) p 0) (th := pe (sdm m b s) p 1) (we := ho (sdm m b s) h 2) (vn := vn) (vc := vc) (vw := vw) (J := J) Q1 (by rw [b5]; exact c1.1) (by rw [b4]; exact c1.2) c2 (by rw [p0]; omega) rfl rfl
            have z := (x4.1 (ix b) (by omega)).1
            rw [ek] at z
            have z : I2 296 (ix b) = w (BsP (sdm m b s) ss ln p h f b).1 := z
            have zb : 0 ≤ (BsP (sdm m b s) ss ln p h f b).1 := (x4.2 b).1
            have zc : (BsP (sdm m b s) ss ln p h f b).1 ≤ 10000 := BsP_b (fun hi pa k => (RLaw_b g3 _ k).1) (by rw [p0]; exact hpp) b
            have s221 := sp_223 (d := d + 35) (b := b) (j := 3) (I := I2) (vn := vn) (vc := vc) (vw := vw) (J := J) hM (by rw [x3.2.2.2.1, b3]; omega)
            rw [x3.2.2.2.1, p3] at s221
            have i6 : I2 288 (ix 6) = w (m 6) := by rw [rV_s I2 (by omega), x3.2.2.2.1, b6]
            obtain ⟨o, ho'⟩ : ∃ o, o = (BsP (sdm m b s) ss ln p h f b).1 := ⟨_, rfl⟩
            rw [← ho'] at z zb zc
            obtain ⟨pr, hpr⟩ : ∃ pr, pr = bl m b 3 := ⟨_, rfl⟩
            have hprb : 0 ≤ pr ∧ pr ≤ 999 := by rw [hpr]; exact hbb.2.2.2.1
            rw [← hpr] at s221
            have bop : 0 ≤ 3 * o * pr ∧ 3 * o * pr ≤ 30000 * 999 := ⟨Int.mul_nonneg (by omega) hprb.1, Int.mul_le_mul (by omega) hprb.2 hprb.1 (by omega)⟩
            have et : lrgF m (fun s => (BsP (sdm m b s) ss ln p h f b).1) b (k + 1) s = if 3 * o * pr ≤ 10000 * m 6 then s else lrgF m (fun s => (BsP (sdm m b s) ss ln p h f b).1) b k (s + 1) := by rw [ho', hpr]; rfl
            rw [et]
            have hf2 : ∀ a k, (a < 287 ∨ (287 < a ∧ a < 293) ∨ 304 ≤ a ∨ (a = 287 ∧ (k < 9 ∨ k = 12))) → ¬(a = 288 ∧ k = ix (20 + 5 * b + 2)) → I2 a k = I0 a k := fun a k x y => by
              rw [x2 a k x, u2_r, if_neg y, hf a k x y]
            have hm2 : ∀ y, y ≠ 20 + 5 * b + 2 → sdm m b s y = m y := fun y hy => setm_o _ hy
            have i22 : 20 + 5 * b + 2 < 992 := by omega
            by_cases c3 : 3 * o * pr ≤ 10000 * m 6
            · rw [if_pos c3]
              obtain ⟨f1, f2⟩ := fin I2 _ I0 x3 hm2 hf2 h0
              refine ⟨_, ?_, f1, f2⟩
              rw [eq_306_38]
              simp (disch := first | assumption | omega | (simp (disch := omega) only [vM_u, vS_u]; first | assumption | omega)) only [hK, hL, hR, hI, hN, sI, hSp, hC, hW, li, lr, ↓cnd_a, ↓cnd_o, ↓cnd_n, ↓cnd_d, ↓z0, ↓z1, ↓z2, y0n, y1i, y2r, y0e, y1e, y2e, wl_0, wl_1, wl_2, wl_3, wl_4, wl_5, wl_6, wl_7, wl_8, wl_9, wl_10, wl_11, wl_12, wl_13, wl_14, wl_15, wl_16, wl_17, wl_18, wl_19, wl_20, wl_21, wl_22, wl_23, wl_24, wl_25, wl_26, wl_27, wl_28, wl_29, wl_30, wl_31, wl_32, wl_33, wl_34, wl_35, wl_36, wl_37, wl_38, wl_39, wl_40, wl_41, wl_42, wl_43, wl_44, wl_45, wl_46, wl_47, wl_48, wl_49, wl_50, wl_51, wl_52, wl_53, wl_54, wl_55, wl_56, wl_57, wl_58, wl_59, wl_60, wl_61, wl_62, wl_63, wl_64, wl_65, wl_66, wl_67, wl_68, wl_69, wl_70, wl_71, wl_72, wl_73, wl_74, wl_75, wl_76, wl_77, wl_78, wl_79, wl_80, wl_81, wl_82, wl_83, wl_84, wl_85, wl_86, wl_87, wl_88, wl_89, wl_90, wl_91, wl_92, wl_93, wl_94, wl_95, wl_96, wl_97, wl_98, wl_99, wl_100, wl_101, wl_102, wl_103, wl_104, wl_105, wl_106, wl_107, wl_108, wl_109, wl_110, wl_111, wl_112, wl_113, wl_114, wl_115, wl_116, wl_117, wl_118, wl_119, wl_120, wl_121, wl_122, wl_123, wl_124, wl_125, wl_126, wl_127, wl_128, wl_129, wl_130, wl_159, wl_160, wl_200, wl_232, wl_255, wl_256, wl_300, wl_359, wl_360, wl_400, wl_592, wl_992, wl_999, wl_1000, wl_1024, wl_3456, wl_6512, wl_7104, wl_10000, wl_11264, wl_12345, wl_32767, wl_1000000000, wl_1103515245, wl_2000000000, w_add, w_sub, w_mul, w_neg, w_lt, w_le, w_eq, w_cl, w_in, w_nat, w_max2, w_min2, w_abs2, iltT, iltF, ileT, ileF, ieqT, ieqF, bv_01, bft, bv_0, bv_1, bv_t, bv_f, cond_true, cond_false, Bool.not_true, Bool.not_false, if_true, if_false, true_or, or_true, true_and, and_true, ↓reduceIte, decide_true, decide_false, reduceCtorEq, u2_s, u2_o, u2_k, u2_u2, Bool.true_or, Bool.or_true, Bool.false_or, Bool.or_false, Bool.and_true, Bool.true_and, Bool.and_false, Bool.false_and, eq_self, not_true_eq_false, not_false_eq_true, and_self, and_true, true_and, false_and, and_false, w_dv, dvm, MSH_e hM, x1, z, s221, i6]
              rw [eq_306_38]
              by_cases c4 : s = 9
              · simp (disch := first | assumption | omega | (simp (disch := omega) only [vM_u, vS_u]; first | assumption | omega)) only [hK, hL, hR, hI, hN, sI, hSp, hC, hW, li, lr, ↓cnd_a, ↓cnd_o, ↓cnd_n, ↓cnd_d, ↓z0, ↓z1, ↓z2, y0n, y1i, y2r, y0e, y1e, y2e, wl_0, wl_1, wl_2, wl_3, wl_4, wl_5, wl_6, wl_7, wl_8, wl_9, wl_10, wl_11, wl_12, wl_13, wl_14, wl_15, wl_16, wl_17, wl_18, wl_19, wl_20, wl_21, wl_22, wl_23, wl_24, wl_25, wl_26, wl_27, wl_28, wl_29, wl_30, wl_31, wl_32, wl_33, wl_34, wl_35, wl_36, wl_37, wl_38, wl_39, wl_40, wl_41, wl_42, wl_43, wl_44, wl_45, wl_46, wl_47, wl_48, wl_49, wl_50, wl_51, wl_52, wl_53, wl_54, wl_55, wl_56, wl_57, wl_58, wl_59, wl_60, wl_61, wl_62, wl_63, wl_64, wl_65, wl_66, wl_67, wl_68, wl_69, wl_70, wl_71, wl_72, wl_73, wl_74, wl_75, wl_76, wl_77, wl_78, wl_79, wl_80, wl_81, wl_82, wl_83, wl_84, wl_85, wl_86, wl_87, wl_88, wl_89, wl_90, wl_91, wl_92, wl_93, wl_94, wl_95, wl_96, wl_97, wl_98, wl_99, wl_100, wl_101, wl_102, wl_103, wl_104, wl_105, wl_106, wl_107, wl_108, wl_109, wl_110, wl_111, wl_112, wl_113, wl_114, wl_115, wl_116, wl_117, wl_118, wl_119, wl_120, wl_121, wl_122, wl_123, wl_124, wl_125, wl_126, wl_127, wl_128, wl_129, wl_130, wl_159, wl_160, wl_200, wl_232, wl_255, wl_256, wl_300, wl_359, wl_360, wl_400, wl_592, wl_992, wl_999, wl_1000, wl_1024, wl_3456, wl_6512, wl_7104, wl_10000, wl_11264, wl_12345, wl_32767, wl_1000000000, wl_1103515245, wl_2000000000, w_add, w_sub, w_mul, w_neg, w_lt, w_le, w_eq, w_cl, w_in, w_nat, w_max2, w_min2, w_abs2, iltT, iltF, ileT, ileF, ieqT, ieqF, bv_01, bft, bv_0, bv_1, bv_t, bv_f, cond_true, cond_false, Bool.not_true, Bool.not_false, if_true, if_false, true_or, or_true, true_and, and_true, ↓reduceIte, decide_true, decide_false, reduceCtorEq, u2_s, u2_o, u2_k, u2_u2, Bool.true_or, Bool.or_true, Bool.false_or, Bool.or_false, Bool.and_true, Bool.true_and, Bool.and_false, Bool.false_and, eq_self, not_true_eq_false, not_false_eq_true, and_self, and_true, true_and, false_and, and_false, w_dv, dvm, MSH_e hM, c4]
              · simp (disch := first | assumption | omega | (simp (disch := omega) only [vM_u, vS_u]; first | assumption | omega)) only [hK, hL, hR, hI, hN, sI, hSp, hC, hW, li, lr, ↓cnd_a, ↓cnd_o, ↓cnd_n, ↓cnd_d, ↓z0, ↓z1, ↓z2, y0n, y1i, y2r, y0e, y1e, y2e, wl_0, wl_1, wl_2, wl_3, wl_4, wl_5, wl_6, wl_7, wl_8, wl_9, wl_10, wl_11, wl_12, wl_13, wl_14, wl_15, wl_16, wl_17, wl_18, wl_19, wl_20, wl_21, wl_22, wl_23, wl_24, wl_25, wl_26, wl_27, wl_28, wl_29, wl_30, wl_31, wl_32, wl_33, wl_34, wl_35, wl_36, wl_37, wl_38, wl_39, wl_40, wl_41, wl_42, wl_43, wl_44, wl_45, wl_46, wl_47, wl_48, wl_49, wl_50, wl_51, wl_52, wl_53, wl_54, wl_55, wl_56, wl_57, wl_58, wl_59, wl_60, wl_61, wl_62, wl_63, wl_64, wl_65, wl_66, wl_67, wl_68, wl_69, wl_70, wl_71, wl_72, wl_73, wl_74, wl_75, wl_76, wl_77, wl_78, wl_79, wl_80, wl_81, wl_82, wl_83, wl_84, wl_85, wl_86, wl_87, wl_88, wl_89, wl_90, wl_91, wl_92, wl_93, wl_94, wl_95, wl_96, wl_97, wl_98, wl_99, wl_100, wl_101, wl_102, wl_103, wl_104, wl_105, wl_106, wl_107, wl_108, wl_109, wl_110, wl_111, wl_112, wl_113, wl_114, wl_115, wl_116, wl_117, wl_118, wl_119, wl_120, wl_121, wl_122, wl_123, wl_124, wl_125, wl_126, wl_127, wl_128, wl_129, wl_130, wl_159, wl_160, wl_200, wl_232, wl_255, wl_256, wl_300, wl_359, wl_360, wl_400, wl_592, wl_992, wl_999, wl_1000, wl_1024, wl_3456, wl_6512, wl_7104, wl_10000, wl_11264, wl_12345, wl_32767, wl_1000000000, wl_1103515245, wl_2000000000, w_add, w_sub, w_mul, w_neg, w_lt, w_le, w_eq, w_cl, w_in, w_nat, w_max2, w_min2, w_abs2, iltT, iltF, ileT, ileF, ieqT, ieqF, bv_01, bft, bv_0, bv_1, bv_t, bv_f, cond_true, cond_false, Bool.not_true, Bool.not_false, if_true, if_false, true_or, or_true, true_and, and_true, ↓reduceIte, decide_true, decide_false, reduceCtorEq, u2_s, u2_o, u2_k, u2_u2, Bool.true_or, Bool.or_true, Bool.false_or, Bool.or_false, Bool.and_true, Bool.true_and, Bool.and_false, Bool.false_and, eq_self, not_true_eq_false, not_false_eq_true, and_self, and_true, true_and, false_and, and_false, w_dv, dvm, MSH_e hM]
            · rw [if_neg c3]
              obtain ⟨I', l1, l2, l3⟩ := ih (s + 1) I2 I0 _ (by omega) (by omega) x3 hm2 hf2 h0
              refine ⟨I', ?_, l2, l3⟩
              rw [eq_306_38]
              simp (disch := first | assumption | omega | (simp (disch := omega) only [vM_u, vS_u]; first | assumption | omega)) only [hK, hL, hR, hI, hN, sI, hSp, hC, hW, li, lr, ↓cnd_a, ↓cnd_o, ↓cnd_n, ↓cnd_d, ↓z0, ↓z1, ↓z2, y0n, y1i, y2r, y0e, y1e, y2e, wl_0, wl_1, wl_2, wl_3, wl_4, wl_5, wl_6, wl_7, wl_8, wl_9, wl_10, wl_11, wl_12, wl_13, wl_14, wl_15, wl_16, wl_17, wl_18, wl_19, wl_20, wl_21, wl_22, wl_23, wl_24, wl_25, wl_26, wl_27, wl_28, wl_29, wl_30, wl_31, wl_32, wl_33, wl_34, wl_35, wl_36, wl_37, wl_38, wl_39, wl_40, wl_41, wl_42, wl_43, wl_44, wl_45, wl_46, wl_47, wl_48, wl_49, wl_50, wl_51, wl_52, wl_53, wl_54, wl_55, wl_56, wl_57, wl_58, wl_59, wl_60, wl_61, wl_62, wl_63, wl_64, wl_65, wl_66, wl_67, wl_68, wl_69, wl_70, wl_71, wl_72, wl_73, wl_74, wl_75, wl_76, wl_77, wl_78, wl_79, wl_80, wl_81, wl_82, wl_83, wl_84, wl_85, wl_86, wl_87, wl_88, wl_89, wl_90, wl_91, wl_92, wl_93, wl_94, wl_95, wl_96, wl_97, wl_98, wl_99, wl_100, wl_101, wl_102, wl_103, wl_104, wl_105, wl_106, wl_107, wl_108, wl_109, wl_110, wl_111, wl_112, wl_113, wl_114, wl_115, wl_116, wl_117, wl_118, wl_119, wl_120, wl_121, wl_122, wl_123, wl_124, wl_125, wl_126, wl_127, wl_128, wl_129, wl_130, wl_159, wl_160, wl_200, wl_232, wl_255, wl_256, wl_300, wl_359, wl_360, wl_400, wl_592, wl_992, wl_999, wl_1000, wl_1024, wl_3456, wl_6512, wl_7104, wl_10000, wl_11264, wl_12345, wl_32767, wl_1000000000, wl_1103515245, wl_2000000000, w_add, w_sub, w_mul, w_neg, w_lt, w_le, w_eq, w_cl, w_in, w_nat, w_max2, w_min2, w_abs2, iltT, iltF, ileT, ileF, ieqT, ieqF, bv_01, bft, bv_0, bv_1, bv_t, bv_f, cond_true, cond_false, Bool.not_true, Bool.not_false, if_true, if_false, true_or, or_true, true_and, and_true, ↓reduceIte, decide_true, decide_false, reduceCtorEq, u2_s, u2_o, u2_k, u2_u2, Bool.true_or, Bool.or_true, Bool.false_or, Bool.or_false, Bool.and_true, Bool.true_and, Bool.and_false, Bool.false_and, eq_self, not_true_eq_false, not_false_eq_true, and_self, and_true, true_and, false_and, and_false, w_dv, dvm, MSH_e hM, x1, z, s221, i6, l1]
        have h0 : I 288 (ix (20 + 5 * b + 2)) = w was := by
          rw [hwas]
          have := mI_w I (20 + 5 * b + 2)
          rw [this]
          congr 1
          have e3 : mI I 3 = m 3 := by rw [← vM_s (I := I) (by omega), g4]
          have e2 : vM I (20 + 5 * b + 2) = mI I (20 + 5 * b + 2) := by
            conv => lhs; unfold vM
            rw [e3, if_pos (by omega)]
          rw [← e2, g4]
          rfl
        obtain ⟨I', l1, l2, l3⟩ := lp 9 1 (u2 I 287 0 (w 0)) (u2 I 287 0 (w 0)) m (by omega) (by omega) (QR_0 hQ) (fun _ _ => rfl) (fun _ _ _ _ => rfl) (by rw [u2_o _ _ _ _ (by decide)]; exact h0)
        have s221 := sp_223 (d := d + 35) (b := b) (j := 2) (I := u2 I 287 0 (w 0)) (vn := vn) (vc := vc) (vw := vw) (J := J) hM (by rw [vM_u (by decide), g4]; omega)
        rw [vM_u (by decide), g4, ← hwas] at s221
        have s1 := m_229t (d := d + 34) (b := p) (I := I) (vn := vn) (vc := vc) (vw := vw) (J := J) hM (by rw [g4]; omega)
        have s2 := m_228t (d := d + 34) (b := h) (I := I) (vn := vn) (vc := vc) (vw := vw) (J := J) hM (by rw [g4]; omega)
        have s3 := m_227t (d := d + 34) (b := b) (I := I) (vn := vn) (vc := vc) (vw := vw) (J := J) hM (by rw [g4]; omega)
        refine XM_o (by unfold cLrg; rw [if_pos ⟨by unfold vPH; exact c1, c0⟩, if_pos c2]) ⟨I', ?_, l2, l3⟩
        unfold vLarge
        rw [eq_306]
        simp (disch := first | assumption | omega | (simp (disch := omega) only [vM_u, vS_u]; first | assumption | omega)) only [hK, hL, hR, hI, hN, sI, hSp, hC, hW, li, lr, ↓cnd_a, ↓cnd_o, ↓cnd_n, ↓cnd_d, ↓z0, ↓z1, ↓z2, y0n, y1i, y2r, y0e, y1e, y2e, wl_0, wl_1, wl_2, wl_3, wl_4, wl_5, wl_6, wl_7, wl_8, wl_9, wl_10, wl_11, wl_12, wl_13, wl_14, wl_15, wl_16, wl_17, wl_18, wl_19, wl_20, wl_21, wl_22, wl_23, wl_24, wl_25, wl_26, wl_27, wl_28, wl_29, wl_30, wl_31, wl_32, wl_33, wl_34, wl_35, wl_36, wl_37, wl_38, wl_39, wl_40, wl_41, wl_42, wl_43, wl_44, wl_45, wl_46, wl_47, wl_48, wl_49, wl_50, wl_51, wl_52, wl_53, wl_54, wl_55, wl_56, wl_57, wl_58, wl_59, wl_60, wl_61, wl_62, wl_63, wl_64, wl_65, wl_66, wl_67, wl_68, wl_69, wl_70, wl_71, wl_72, wl_73, wl_74, wl_75, wl_76, wl_77, wl_78, wl_79, wl_80, wl_81, wl_82, wl_83, wl_84, wl_85, wl_86, wl_87, wl_88, wl_89, wl_90, wl_91, wl_92, wl_93, wl_94, wl_95, wl_96, wl_97, wl_98, wl_99, wl_100, wl_101, wl_102, wl_103, wl_104, wl_105, wl_106, wl_107, wl_108, wl_109, wl_110, wl_111, wl_112, wl_113, wl_114, wl_115, wl_116, wl_117, wl_118, wl_119, wl_120, wl_121, wl_122, wl_123, wl_124, wl_125, wl_126, wl_127, wl_128, wl_129, wl_130, wl_159, wl_160, wl_200, wl_232, wl_255, wl_256, wl_300, wl_359, wl_360, wl_400, wl_592, wl_992, wl_999, wl_1000, wl_1024, wl_3456, wl_6512, wl_7104, wl_10000, wl_11264, wl_12345, wl_32767, wl_1000000000, wl_1103515245, wl_2000000000, w_add, w_sub, w_mul, w_neg, w_lt, w_le, w_eq, w_cl, w_in, w_nat, w_max2, w_min2, w_abs2, iltT, iltF, ileT, ileF, ieqT, ieqF, bv_01, bft, bv_0, bv_1, bv_t, bv_f, cond_true, cond_false, Bool.not_true, Bool.not_false, if_true, if_false, true_or, or_true, true_and, and_true, ↓reduceIte, decide_true, decide_false, reduceCtorEq, u2_s, u2_o, u2_k, u2_u2, Bool.true_or, Bool.or_true, Bool.false_or, Bool.or_false, Bool.and_true, Bool.true_and, Bool.and_false, Bool.false_and, eq_self, not_true_eq_false, not_false_eq_true, and_self, and_true, true_and, false_and, and_false, w_dv, dvm, MSH_e hM, s1, s2, s3, m_218t, eq_306_23, s221, l1]
      · refine XM_e (k := 2) (v' := w 0) (by unfold cLrg; rw [if_pos ⟨c1, c0⟩, if_neg c2]) (by decide) ?_
        unfold vPH at c1
        subst g4
        rw [eq_306]
        simp (disch := first | assumption | omega | (simp (disch := omega) only [vM_u, vS_u]; first | assumption | omega)) only [hK, hL, hR, hI, hN, sI, hSp, hC, hW, li, lr, ↓cnd_a, ↓cnd_o, ↓cnd_n, ↓cnd_d, ↓z0, ↓z1, ↓z2, y0n, y1i, y2r, y0e, y1e, y2e, wl_0, wl_1, wl_2, wl_3, wl_4, wl_5, wl_6, wl_7, wl_8, wl_9, wl_10, wl_11, wl_12, wl_13, wl_14, wl_15, wl_16, wl_17, wl_18, wl_19, wl_20, wl_21, wl_22, wl_23, wl_24, wl_25, wl_26, wl_27, wl_28, wl_29, wl_30, wl_31, wl_32, wl_33, wl_34, wl_35, wl_36, wl_37, wl_38, wl_39, wl_40, wl_41, wl_42, wl_43, wl_44, wl_45, wl_46, wl_47, wl_48, wl_49, wl_50, wl_51, wl_52, wl_53, wl_54, wl_55, wl_56, wl_57, wl_58, wl_59, wl_60, wl_61, wl_62, wl_63, wl_64, wl_65, wl_66, wl_67, wl_68, wl_69, wl_70, wl_71, wl_72, wl_73, wl_74, wl_75, wl_76, wl_77, wl_78, wl_79, wl_80, wl_81, wl_82, wl_83, wl_84, wl_85, wl_86, wl_87, wl_88, wl_89, wl_90, wl_91, wl_92, wl_93, wl_94, wl_95, wl_96, wl_97, wl_98, wl_99, wl_100, wl_101, wl_102, wl_103, wl_104, wl_105, wl_106, wl_107, wl_108, wl_109, wl_110, wl_111, wl_112, wl_113, wl_114, wl_115, wl_116, wl_117, wl_118, wl_119, wl_120, wl_121, wl_122, wl_123, wl_124, wl_125, wl_126, wl_127, wl_128, wl_129, wl_130, wl_159, wl_160, wl_200, wl_232, wl_255, wl_256, wl_300, wl_359, wl_360, wl_400, wl_592, wl_992, wl_999, wl_1000, wl_1024, wl_3456, wl_6512, wl_7104, wl_10000, wl_11264, wl_12345, wl_32767, wl_1000000000, wl_1103515245, wl_2000000000, w_add, w_sub, w_mul, w_neg, w_lt, w_le, w_eq, w_cl, w_in, w_nat, w_max2, w_min2, w_abs2, iltT, iltF, ileT, ileF, ieqT, ieqF, bv_01, bft, bv_0, bv_1, bv_t, bv_f, cond_true, cond_false, Bool.not_true, Bool.not_false, if_true, if_false, true_or, or_true, true_and, and_true, ↓reduceIte, decide_true, decide_false, reduceCtorEq, u2_s, u2_o, u2_k, u2_u2, Bool.true_or, Bool.or_true, Bool.false_or, Bool.or_false, Bool.and_true, Bool.true_and, Bool.and_false, Bool.false_and, eq_self, not_true_eq_false, not_false_eq_true, and_self, and_true, true_and, false_and, and_false, w_dv, dvm, MSH_e hM, m_229t, m_228t, m_227t, m_218f, eq_306_23]
    · refine XM_e (k := 1) (v' := w 0) (by unfold cLrg; rw [if_neg (fun z => c0 z.2)]) (by decide) ?_
      unfold vPH at c1
      subst g4
      rw [eq_306]
      simp (disch := first | assumption | omega | (simp (disch := omega) only [vM_u, vS_u]; first | assumption | omega)) only [hK, hL, hR, hI, hN, sI, hSp, hC, hW, li, lr, ↓cnd_a, ↓cnd_o, ↓cnd_n, ↓cnd_d, ↓z0, ↓z1, ↓z2, y0n, y1i, y2r, y0e, y1e, y2e, wl_0, wl_1, wl_2, wl_3, wl_4, wl_5, wl_6, wl_7, wl_8, wl_9, wl_10, wl_11, wl_12, wl_13, wl_14, wl_15, wl_16, wl_17, wl_18, wl_19, wl_20, wl_21, wl_22, wl_23, wl_24, wl_25, wl_26, wl_27, wl_28, wl_29, wl_30, wl_31, wl_32, wl_33, wl_34, wl_35, wl_36, wl_37, wl_38, wl_39, wl_40, wl_41, wl_42, wl_43, wl_44, wl_45, wl_46, wl_47, wl_48, wl_49, wl_50, wl_51, wl_52, wl_53, wl_54, wl_55, wl_56, wl_57, wl_58, wl_59, wl_60, wl_61, wl_62, wl_63, wl_64, wl_65, wl_66, wl_67, wl_68, wl_69, wl_70, wl_71, wl_72, wl_73, wl_74, wl_75, wl_76, wl_77, wl_78, wl_79, wl_80, wl_81, wl_82, wl_83, wl_84, wl_85, wl_86, wl_87, wl_88, wl_89, wl_90, wl_91, wl_92, wl_93, wl_94, wl_95, wl_96, wl_97, wl_98, wl_99, wl_100, wl_101, wl_102, wl_103, wl_104, wl_105, wl_106, wl_107, wl_108, wl_109, wl_110, wl_111, wl_112, wl_113, wl_114, wl_115, wl_116, wl_117, wl_118, wl_119, wl_120, wl_121, wl_122, wl_123, wl_124, wl_125, wl_126, wl_127, wl_128, wl_129, wl_130, wl_159, wl_160, wl_200, wl_232, wl_255, wl_256, wl_300, wl_359, wl_360, wl_400, wl_592, wl_992, wl_999, wl_1000, wl_1024, wl_3456, wl_6512, wl_7104, wl_10000, wl_11264, wl_12345, wl_32767, wl_1000000000, wl_1103515245, wl_2000000000, w_add, w_sub, w_mul, w_neg, w_lt, w_le, w_eq, w_cl, w_in, w_nat, w_max2, w_min2, w_abs2, iltT, iltF, ileT, ileF, ieqT, ieqF, bv_01, bft, bv_0, bv_1, bv_t, bv_f, cond_true, cond_false, Bool.not_true, Bool.not_false, if_true, if_false, true_or, or_true, true_and, and_true, ↓reduceIte, decide_true, decide_false, reduceCtorEq, u2_s, u2_o, u2_k, u2_u2, Bool.true_or, Bool.or_true, Bool.false_or, Bool.or_false, Bool.and_true, Bool.true_and, Bool.and_false, Bool.false_and, eq_self, not_true_eq_false, not_false_eq_true, and_self, and_true, true_and, false_and, and_false, w_dv, dvm, MSH_e hM, m_229t, m_228t, m_227f, eq_306_23]
  · refine XM_e (k := 1) (v' := w 0) (by unfold cLrg; rw [if_neg (fun z => c1 z.1)]) (by decide) ?_
    unfold vPH at c1
    subst g4
    rw [eq_306]
    by_cases c2 : 0 ≤ p ∧ p < vM I 5
    · simp (disch := first | assumption | omega | (simp (disch := omega) only [vM_u, vS_u]; first | assumption | omega)) only [hK, hL, hR, hI, hN, sI, hSp, hC, hW, li, lr, ↓cnd_a, ↓cnd_o, ↓cnd_n, ↓cnd_d, ↓z0, ↓z1, ↓z2, y0n, y1i, y2r, y0e, y1e, y2e, wl_0, wl_1, wl_2, wl_3, wl_4, wl_5, wl_6, wl_7, wl_8, wl_9, wl_10, wl_11, wl_12, wl_13, wl_14, wl_15, wl_16, wl_17, wl_18, wl_19, wl_20, wl_21, wl_22, wl_23, wl_24, wl_25, wl_26, wl_27, wl_28, wl_29, wl_30, wl_31, wl_32, wl_33, wl_34, wl_35, wl_36, wl_37, wl_38, wl_39, wl_40, wl_41, wl_42, wl_43, wl_44, wl_45, wl_46, wl_47, wl_48, wl_49, wl_50, wl_51, wl_52, wl_53, wl_54, wl_55, wl_56, wl_57, wl_58, wl_59, wl_60, wl_61, wl_62, wl_63, wl_64, wl_65, wl_66, wl_67, wl_68, wl_69, wl_70, wl_71, wl_72, wl_73, wl_74, wl_75, wl_76, wl_77, wl_78, wl_79, wl_80, wl_81, wl_82, wl_83, wl_84, wl_85, wl_86, wl_87, wl_88, wl_89, wl_90, wl_91, wl_92, wl_93, wl_94, wl_95, wl_96, wl_97, wl_98, wl_99, wl_100, wl_101, wl_102, wl_103, wl_104, wl_105, wl_106, wl_107, wl_108, wl_109, wl_110, wl_111, wl_112, wl_113, wl_114, wl_115, wl_116, wl_117, wl_118, wl_119, wl_120, wl_121, wl_122, wl_123, wl_124, wl_125, wl_126, wl_127, wl_128, wl_129, wl_130, wl_159, wl_160, wl_200, wl_232, wl_255, wl_256, wl_300, wl_359, wl_360, wl_400, wl_592, wl_992, wl_999, wl_1000, wl_1024, wl_3456, wl_6512, wl_7104, wl_10000, wl_11264, wl_12345, wl_32767, wl_1000000000, wl_1103515245, wl_2000000000, w_add, w_sub, w_mul, w_neg, w_lt, w_le, w_eq, w_cl, w_in, w_nat, w_max2, w_min2, w_abs2, iltT, iltF, ileT, ileF, ieqT, ieqF, bv_01, bft, bv_0, bv_1, bv_t, bv_f, cond_true, cond_false, Bool.not_true, Bool.not_false, if_true, if_false, true_or, or_true, true_and, and_true, ↓reduceIte, decide_true, decide_false, reduceCtorEq, u2_s, u2_o, u2_k, u2_u2, Bool.true_or, Bool.or_true, Bool.false_or, Bool.or_false, Bool.and_true, Bool.true_and, Bool.and_false, Bool.false_and, eq_self, not_true_eq_false, not_false_eq_true, and_self, and_true, true_and, false_and, and_false, w_dv, dvm, MSH_e hM, m_229t, m_228f, eq_306_23]
    · simp (disch := first | assumption | omega | (simp (disch := omega) only [vM_u, vS_u]; first | assumption | omega)) only [hK, hL, hR, hI, hN, sI, hSp, hC, hW, li, lr, ↓cnd_a, ↓cnd_o, ↓cnd_n, ↓cnd_d, ↓z0, ↓z1, ↓z2, y0n, y1i, y2r, y0e, y1e, y2e, wl_0, wl_1, wl_2, wl_3, wl_4, wl_5, wl_6, wl_7, wl_8, wl_9, wl_10, wl_11, wl_12, wl_13, wl_14, wl_15, wl_16, wl_17, wl_18, wl_19, wl_20, wl_21, wl_22, wl_23, wl_24, wl_25, wl_26, wl_27, wl_28, wl_29, wl_30, wl_31, wl_32, wl_33, wl_34, wl_35, wl_36, wl_37, wl_38, wl_39, wl_40, wl_41, wl_42, wl_43, wl_44, wl_45, wl_46, wl_47, wl_48, wl_49, wl_50, wl_51, wl_52, wl_53, wl_54, wl_55, wl_56, wl_57, wl_58, wl_59, wl_60, wl_61, wl_62, wl_63, wl_64, wl_65, wl_66, wl_67, wl_68, wl_69, wl_70, wl_71, wl_72, wl_73, wl_74, wl_75, wl_76, wl_77, wl_78, wl_79, wl_80, wl_81, wl_82, wl_83, wl_84, wl_85, wl_86, wl_87, wl_88, wl_89, wl_90, wl_91, wl_92, wl_93, wl_94, wl_95, wl_96, wl_97, wl_98, wl_99, wl_100, wl_101, wl_102, wl_103, wl_104, wl_105, wl_106, wl_107, wl_108, wl_109, wl_110, wl_111, wl_112, wl_113, wl_114, wl_115, wl_116, wl_117, wl_118, wl_119, wl_120, wl_121, wl_122, wl_123, wl_124, wl_125, wl_126, wl_127, wl_128, wl_129, wl_130, wl_159, wl_160, wl_200, wl_232, wl_255, wl_256, wl_300, wl_359, wl_360, wl_400, wl_592, wl_992, wl_999, wl_1000, wl_1024, wl_3456, wl_6512, wl_7104, wl_10000, wl_11264, wl_12345, wl_32767, wl_1000000000, wl_1103515245, wl_2000000000, w_add, w_sub, w_mul, w_neg, w_lt, w_le, w_eq, w_cl, w_in, w_nat, w_max2, w_min2, w_abs2, iltT, iltF, ileT, ileF, ieqT, ieqF, bv_01, bft, bv_0, bv_1, bv_t, bv_f, cond_true, cond_false, Bool.not_true, Bool.not_false, if_true, if_false, true_or, or_true, true_and, and_true, ↓reduceIte, decide_true, decide_false, reduceCtorEq, u2_s, u2_o, u2_k, u2_u2, Bool.true_or, Bool.or_true, Bool.false_or, Bool.or_false, Bool.and_true, Bool.true_and, Bool.and_false, Bool.false_and, eq_self, not_true_eq_false, not_false_eq_true, and_self, and_true, true_and, false_and, and_false, w_dv, dvm, MSH_e hM, m_229f, eq_306_23]
end LRG
