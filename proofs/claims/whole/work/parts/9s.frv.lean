/-! a fair's text on the common view -/
section FRV
def addB (m : Int → Int) (x y s p v : Int) : Int → Int := setm (setm (setm (setm (setm (setm m 3 (m 3 + 1)) (20 + 5 * m 3 + 0) x) (20 + 5 * m 3 + 1) y) (20 + 5 * m 3 + 2) s) (20 + 5 * m 3 + 3) p) (20 + 5 * m 3 + 4) v
def addH (m : Int → Int) (x y v : Int) : Int → Int := setm (setm (setm (setm m 4 (m 4 + 1)) (70 + 3 * m 4 + 0) x) (70 + 3 * m 4 + 1) y) (70 + 3 * m 4 + 2) v
def addP (m : Int → Int) (v : Int) : Int → Int := setm (setm m 5 (m 5 + 1)) (94 + 3 * m 5 + 0) v
def bI (b : Bool) : Int := if b then 1 else 0
theorem bv_bI (b : Bool) : bv b = w (bI b) := by cases b <;> rfl
def pStI (T : Int → Int) (e : Int) (m : Int → Int) (z hi p : Int) : Except Int (Int × (Int → Int)) :=
  match pFig T e 0 hi p with
  | .error f => .error f
  | .ok r => .ok (r.1, setm m z r.2)
/-- one line of a fair -/
def pLn (T : Int → Int) (e : Int) (m : Int → Int) (p : Int) : Except Int (Int × (Int → Int)) :=
  let q := sk T e p
  if hasB T e q W_block then (if m 3 = 10 then .error q else match pBlk T e (lw T e q) with | .error f => .error f | .ok r => .ok (r.1, addB m r.2.1 r.2.2.1 r.2.2.2.1 r.2.2.2.2.1 (bI r.2.2.2.2.2)))
  else if hasB T e q W_hoop then (if m 4 = 8 then .error q else match pHop T e (lw T e q) with | .error f => .error f | .ok r => .ok (r.1, addH m r.2.1 r.2.2.1 (bI r.2.2.2)))
  else if hasB T e q W_person then (if m 5 = 6 then .error q else match pFig T e 0 99 (lw T e q) with | .error f => .error f | .ok r => .ok (r.1, addP m r.2))
  else if hasB T e q W_price then pStI T e m 6 99 (lw T e q)
  else if hasB T e q W_bounce then pStI T e m 7 3 (lw T e q)
  else if hasB T e q W_knock then pStI T e m 8 9 (lw T e q)
  else if hasB T e q W_counts then pStI T e m 9 1 (lw T e q)
  else .error q
def fairN (T : Int → Int) (e : Int) : Nat → (Int → Int) → Int → Except Int (Int → Int)
  | 0, _, p => .error (sk T e p)
  | n + 1, m, p => match pLn T e m p with
    | .error f => .error f
    | .ok r => let g := sk T e r.1; if g = e then .ok r.2 else if T g = 59 then fairN T e n r.2 (g + 1) else .error g
def pFair (T : Int → Int) (e : Int) (m : Int → Int) : Except Int (Int → Int) := if sk T e 0 = e then .ok m else fairN T e 14 m 0
theorem mI_s {I : Nat → Nat → Int32} {a v z : Int} (ha : 0 ≤ a) (hv : -2147483648 ≤ v ∧ v < 2147483648) (hz : 0 ≤ z) : mI (u2 I 288 (ix a) (w v)) z = if z = a then v else mI I z := by
  unfold mI
  rw [u2_r]
  by_cases c : z = a
  · rw [if_pos c, if_pos ⟨rfl, by rw [c]⟩, w_toInt hv]
  · rw [if_neg c, if_neg (by unfold ix; omega)]
/-- what a fair's line leaves alone -/
def FFa (I I' : Nat → Nat → Int32) : Prop := ∀ a k, (a = 288 → ¬(3 ≤ k ∧ k ≤ 9) ∧ ¬(20 ≤ k ∧ k < 112)) → I' a k = I a k
def CntI (I : Nat → Nat → Int32) : Prop := (0 ≤ mI I 3 ∧ mI I 3 ≤ 10) ∧ (0 ≤ mI I 4 ∧ mI I 4 ≤ 8) ∧ 0 ≤ mI I 5 ∧ mI I 5 ≤ 6
theorem FFa_rf (I : Nat → Nat → Int32) : FFa I I := fun _ _ _ => rfl
theorem FFa_tr {I I1 I2 : Nat → Nat → Int32} (h : FFa I I1) (g : FFa I1 I2) : FFa I I2 := fun a k c => (g a k c).trans (h a k c)
theorem FFa_u {I I' : Nat → Nat → Int32} {a : Int} {v : Int32} (h : FFa I I') (ha : (3 ≤ a ∧ a ≤ 9) ∨ (20 ≤ a ∧ a < 112)) : FFa I (u2 I' 288 (ix a) v) := fun x k c => by
  rw [u2_r, if_neg (by unfold ix; omega)]
  exact h x k c
theorem rowB_v {I : Nat → Nat → Int32} {r : BkR} (hc : CntI I) (hn : mI I 3 ≠ 10) (h : (0 ≤ r.2.1 ∧ r.2.1 ≤ 59) ∧ (0 ≤ r.2.2.1 ∧ r.2.2.1 ≤ 39) ∧ (1 ≤ r.2.2.2.1 ∧ r.2.2.2.1 ≤ 9) ∧ (0 ≤ r.2.2.2.2.1 ∧ r.2.2.2.2.1 ≤ 999)) : vM (rowB I (mI I 3) r) = addB (vM I) r.2.1 r.2.2.1 r.2.2.2.1 r.2.2.2.2.1 (bI r.2.2.2.2.2) ∧ FFa I (rowB I (mI I 3) r) ∧ CntI (rowB I (mI I 3) r) := by
  obtain ⟨n, e3⟩ : ∃ n, n = mI I 3 := ⟨_, rfl⟩
  obtain ⟨v, ev⟩ : ∃ v, v = bI r.2.2.2.2.2 := ⟨_, rfl⟩
  have hv : 0 ≤ v ∧ v ≤ 1 := by rw [ev]; unfold bI; split <;> omega
  rw [← e3, ← ev]
  unfold CntI at hc
  rw [← e3] at hc hn
  have q : ∀ z, 0 ≤ z → mI (rowB I n r) z = if z = 3 then n + 1 else if z = 20 + 5 * n + 4 then v else if z = 20 + 5 * n + 3 then r.2.2.2.2.1 else if z = 20 + 5 * n + 2 then r.2.2.2.1 else if z = 20 + 5 * n + 1 then r.2.2.1 else if z = 20 + 5 * n + 0 then r.2.1 else mI I z := fun z hz => by
    unfold rowB
    rw [bv_bI, ← ev, mI_s (by omega) (by omega) hz, mI_s (by omega) (by omega) hz, mI_s (by omega) (by omega) hz, mI_s (by omega) (by omega) hz, mI_s (by omega) (by omega) hz, mI_s (by omega) (by omega) hz]
  have o : ∀ z, 0 ≤ z → z ≠ 3 → ¬(20 + 5 * n ≤ z ∧ z ≤ 20 + 5 * n + 4) → mI (rowB I n r) z = mI I z := fun z hz h1 h2 => by
    rw [q z hz, if_neg h1, if_neg (by omega), if_neg (by omega), if_neg (by omega), if_neg (by omega), if_neg (by omega)]
  have q3 : mI (rowB I n r) 3 = n + 1 := by rw [q 3 (by omega), if_pos rfl]
  have q4 := o 4 (by omega) (by omega) (by omega)
  have q5 := o 5 (by omega) (by omega) (by omega)
  have q13 := o 13 (by omega) (by omega) (by omega)
  have q14 := o 14 (by omega) (by omega) (by omega)
  refine ⟨?_, ?_, ?_⟩
  · funext z
    have v3 : vM I 3 = n := by rw [vM_s (by omega), e3]
    unfold addB
    rw [v3]
    unfold setm
    by_cases c : z = 3 ∨ (20 + 5 * n ≤ z ∧ z ≤ 20 + 5 * n + 4)
    · unfold vM
      rw [q3, q4, q5, q13, q14, if_pos (by omega), q z (by omega)]
      by_cases c3 : z = 3
      · rw [if_pos c3, if_neg (by omega), if_neg (by omega), if_neg (by omega), if_neg (by omega), if_neg (by omega), if_pos c3]
      · rw [if_neg c3]
        by_cases c4 : z = 20 + 5 * n + 4
        · rw [if_pos c4, if_pos c4]
        · rw [if_neg c4, if_neg c4]
          by_cases c5 : z = 20 + 5 * n + 3
          · rw [if_pos c5, if_pos c5]
          · rw [if_neg c5, if_neg c5]
            by_cases c6 : z = 20 + 5 * n + 2
            · rw [if_pos c6, if_pos c6]
            · rw [if_neg c6, if_neg c6]
              by_cases c7 : z = 20 + 5 * n + 1
              · rw [if_pos c7, if_pos c7]
              · rw [if_neg c7, if_neg c7, if_pos (by omega), if_pos (by omega)]
    · rw [if_neg (by omega), if_neg (by omega), if_neg (by omega), if_neg (by omega), if_neg (by omega), if_neg (by omega)]
      unfold vM
      rw [q3, q4, q5, q13, q14, ← e3]
      by_cases c1 : z = 0 ∨ (3 ≤ z ∧ z ≤ 11) ∨ (13 ≤ z ∧ z ≤ 15) ∨ (20 ≤ z ∧ z < 20 + 5 * n) ∨ (70 ≤ z ∧ z < 70 + 3 * mI I 4) ∨ (94 ≤ z ∧ z < 94 + 3 * mI I 5) ∨ (112 ≤ z ∧ z < 112 + 4 * mI I 13) ∨ (232 ≤ z ∧ z < 232 + 6 * mI I 14)
      · rw [if_pos c1, if_pos (by omega), o z (by omega) (by omega) (by omega)]
      · rw [if_neg c1, if_neg (by omega)]
  · unfold rowB
    exact FFa_u (FFa_u (FFa_u (FFa_u (FFa_u (FFa_u (FFa_rf I) (by omega)) (by omega)) (by omega)) (by omega)) (by omega)) (by omega)
  · unfold CntI
    rw [q3, q4, q5]
    omega
theorem rowH_v {I : Nat → Nat → Int32} {r : HpR} (hc : CntI I) (hn : mI I 4 ≠ 8) (h : (2 ≤ r.2.1 ∧ r.2.1 ≤ 15) ∧ (0 ≤ r.2.2.1 ∧ r.2.2.1 ≤ 9)) : vM (rowH I (mI I 4) r) = addH (vM I) r.2.1 r.2.2.1 (bI r.2.2.2) ∧ FFa I (rowH I (mI I 4) r) ∧ CntI (rowH I (mI I 4) r) := by
  obtain ⟨n, e3⟩ : ∃ n, n = mI I 4 := ⟨_, rfl⟩
  obtain ⟨v, ev⟩ : ∃ v, v = bI r.2.2.2 := ⟨_, rfl⟩
  have hv : 0 ≤ v ∧ v ≤ 1 := by rw [ev]; unfold bI; split <;> omega
  rw [← e3, ← ev]
  unfold CntI at hc
  rw [← e3] at hc hn
  have q : ∀ z, 0 ≤ z → mI (rowH I n r) z = if z = 4 then n + 1 else if z = 70 + 3 * n + 2 then v else if z = 70 + 3 * n + 1 then r.2.2.1 else if z = 70 + 3 * n + 0 then r.2.1 else mI I z := fun z hz => by
    unfold rowH
    rw [bv_bI, ← ev, mI_s (by omega) (by omega) hz, mI_s (by omega) (by omega) hz, mI_s (by omega) (by omega) hz, mI_s (by omega) (by omega) hz]
  have o : ∀ z, 0 ≤ z → z ≠ 4 → ¬(70 + 3 * n ≤ z ∧ z ≤ 70 + 3 * n + 2) → mI (rowH I n r) z = mI I z := fun z hz h1 h2 => by
    rw [q z hz, if_neg h1, if_neg (by omega), if_neg (by omega), if_neg (by omega)]
  have q3 : mI (rowH I n r) 4 = n + 1 := by rw [q 4 (by omega), if_pos rfl]
  have q4 := o 3 (by omega) (by omega) (by omega)
  have q5 := o 5 (by omega) (by omega) (by omega)
  have q13 := o 13 (by omega) (by omega) (by omega)
  have q14 := o 14 (by omega) (by omega) (by omega)
  refine ⟨?_, ?_, ?_⟩
  · funext z
    have v3 : vM I 4 = n := by rw [vM_s (by omega), e3]
    unfold addH
    rw [v3]
    unfold setm
    by_cases c : z = 4 ∨ (70 + 3 * n ≤ z ∧ z ≤ 70 + 3 * n + 2)
    · unfold vM
      rw [q3, q4, q5, q13, q14, if_pos (by omega), q z (by omega)]
      by_cases c3 : z = 4
      · rw [if_pos c3, if_neg (by omega), if_neg (by omega), if_neg (by omega), if_pos c3]
      · rw [if_neg c3]
        by_cases c6 : z = 70 + 3 * n + 2
        · rw [if_pos c6, if_pos c6]
        · rw [if_neg c6, if_neg c6]
          by_cases c7 : z = 70 + 3 * n + 1
          · rw [if_pos c7, if_pos c7]
          · rw [if_neg c7, if_neg c7, if_pos (by omega), if_pos (by omega)]
    · rw [if_neg (by omega), if_neg (by omega), if_neg (by omega), if_neg (by omega)]
      unfold vM
      rw [q3, q4, q5, q13, q14, ← e3]
      by_cases c1 : z = 0 ∨ (3 ≤ z ∧ z ≤ 11) ∨ (13 ≤ z ∧ z ≤ 15) ∨ (20 ≤ z ∧ z < 20 + 5 * mI I 3) ∨ (70 ≤ z ∧ z < 70 + 3 * n) ∨ (94 ≤ z ∧ z < 94 + 3 * mI I 5) ∨ (112 ≤ z ∧ z < 112 + 4 * mI I 13) ∨ (232 ≤ z ∧ z < 232 + 6 * mI I 14)
      · rw [if_pos c1, if_pos (by omega), o z (by omega) (by omega) (by omega)]
      · rw [if_neg c1, if_neg (by omega)]
  · unfold rowH
    exact FFa_u (FFa_u (FFa_u (FFa_u (FFa_rf I) (by omega)) (by omega)) (by omega)) (by omega)
  · unfold CntI
    rw [q3, q4, q5]
    omega
theorem rowP_v {I : Nat → Nat → Int32} {v : Int} (hc : CntI I) (hn : mI I 5 ≠ 6) (h : 0 ≤ v ∧ v ≤ 99) : vM (rowP I (mI I 5) v) = addP (vM I) v ∧ FFa I (rowP I (mI I 5) v) ∧ CntI (rowP I (mI I 5) v) := by
  obtain ⟨n, e3⟩ : ∃ n, n = mI I 5 := ⟨_, rfl⟩
  rw [← e3]
  unfold CntI at hc
  rw [← e3] at hc hn
  have q : ∀ z, 0 ≤ z → mI (rowP I n v) z = if z = 5 then n + 1 else if z = 94 + 3 * n + 2 then 0 else if z = 94 + 3 * n + 1 then 0 else if z = 94 + 3 * n + 0 then v else mI I z := fun z hz => by
    unfold rowP
    rw [mI_s (by omega) (by omega) hz, mI_s (by omega) (by omega) hz, mI_s (by omega) (by omega) hz, mI_s (by omega) (by omega) hz]
  have o : ∀ z, 0 ≤ z → z ≠ 5 → ¬(94 + 3 * n ≤ z ∧ z ≤ 94 + 3 * n + 2) → mI (rowP I n v) z = mI I z := fun z hz h1 h2 => by
    rw [q z hz, if_neg h1, if_neg (by omega), if_neg (by omega), if_neg (by omega)]
  have q3 : mI (rowP I n v) 5 = n + 1 := by rw [q 5 (by omega), if_pos rfl]
  have q4 := o 3 (by omega) (by omega) (by omega)
  have q5 := o 4 (by omega) (by omega) (by omega)
  have q13 := o 13 (by omega) (by omega) (by omega)
  have q14 := o 14 (by omega) (by omega) (by omega)
  refine ⟨?_, ?_, ?_⟩
  · funext z
    have v3 : vM I 5 = n := by rw [vM_s (by omega), e3]
    unfold addP
    rw [v3]
    unfold setm
    by_cases c : z = 5 ∨ (94 + 3 * n ≤ z ∧ z ≤ 94 + 3 * n + 2)
    · conv => lhs; unfold vM
      rw [q3, q4, q5, q13, q14, if_pos (by omega), q z (by omega)]
      by_cases c3 : z = 5
      · rw [if_pos c3, if_neg (by omega), if_pos c3]
      · rw [if_neg c3]
        by_cases c6 : z = 94 + 3 * n + 0
        · rw [if_neg (by omega), if_neg (by omega), if_pos c6, if_pos c6]
        · rw [if_neg c6, if_neg c6, if_neg c3]
          have r0 : vM I z = 0 := by
            unfold vM
            rw [if_neg (by omega)]
          rw [r0]
          by_cases c7 : z = 94 + 3 * n + 2
          · rw [if_pos c7]
          · rw [if_neg c7, if_pos (by omega)]
    · rw [if_neg (by omega), if_neg (by omega)]
      unfold vM
      rw [q3, q4, q5, q13, q14, ← e3]
      by_cases c1 : z = 0 ∨ (3 ≤ z ∧ z ≤ 11) ∨ (13 ≤ z ∧ z ≤ 15) ∨ (20 ≤ z ∧ z < 20 + 5 * mI I 3) ∨ (70 ≤ z ∧ z < 70 + 3 * mI I 4) ∨ (94 ≤ z ∧ z < 94 + 3 * n) ∨ (112 ≤ z ∧ z < 112 + 4 * mI I 13) ∨ (232 ≤ z ∧ z < 232 + 6 * mI I 14)
      · rw [if_pos c1, if_pos (by omega), o z (by omega) (by omega) (by omega)]
      · rw [if_neg c1, if_neg (by omega)]
  · unfold rowP
    exact FFa_u (FFa_u (FFa_u (FFa_u (FFa_rf I) (by omega)) (by omega)) (by omega)) (by omega)
  · unfold CntI
    rw [q3, q4, q5]
    omega
/-- a cell of its own -/
theorem vM_set {I : Nat → Nat → Int32} {a v : Int} (ha : a = 0 ∨ (6 ≤ a ∧ a ≤ 11) ∨ a = 15) (hv : -2147483648 ≤ v ∧ v < 2147483648) : vM (u2 I 288 (ix a) (w v)) = setm (vM I) a v := by
  have o : ∀ z, 0 ≤ z → z ≠ a → mI (u2 I 288 (ix a) (w v)) z = mI I z := fun z hz h => by rw [mI_s (by omega) hv hz, if_neg h]
  funext z
  unfold setm
  by_cases c : z = a
  · rw [if_pos c, vM_s (by omega), mI_s (by omega) hv (by omega), if_pos c]
  · rw [if_neg c]
    unfold vM
    rw [o 3 (by omega) (by omega), o 4 (by omega) (by omega), o 5 (by omega) (by omega), o 13 (by omega) (by omega), o 14 (by omega) (by omega)]
    by_cases c1 : z = 0 ∨ (3 ≤ z ∧ z ≤ 11) ∨ (13 ≤ z ∧ z ≤ 15) ∨ (20 ≤ z ∧ z < 20 + 5 * mI I 3) ∨ (70 ≤ z ∧ z < 70 + 3 * mI I 4) ∨ (94 ≤ z ∧ z < 94 + 3 * mI I 5) ∨ (112 ≤ z ∧ z < 112 + 4 * mI I 13) ∨ (232 ≤ z ∧ z < 232 + 6 * mI I 14)
    · rw [if_pos c1, if_pos c1]
      have hz : 0 ≤ z ∨ z < 0 := by omega
      by_cases h0 : 0 ≤ z
      · exact o z h0 c
      · have g3 : mI I 3 = mI I 3 := rfl
        omega
    · rw [if_neg c1, if_neg c1]
theorem pSet_v {I : Nat → Nat → Int32} {T : Int → Int} {e z hi p : Int} (hc : CntI I) (hz : 6 ≤ z ∧ z ≤ 9) (hp : 0 ≤ p ∧ p ≤ e) (hh : 0 ≤ hi ∧ hi ≤ 99) :
    (∀ f, pSet T e I z hi p = .error f → pStI T e (vM I) z hi p = .error f) ∧
    (∀ r, pSet T e I z hi p = .ok r → pStI T e (vM I) z hi p = .ok (r.1, vM r.2) ∧ FFa I r.2 ∧ CntI r.2) := by
  unfold pSet pStI
  cases h : pFig T e 0 hi p with
  | error f =>
    exact ⟨fun _ x => by injection x with x; rw [x], fun _ x => nomatch x⟩
  | ok a =>
    have hr := dg_lt h
    refine ⟨fun _ x => (nomatch x), fun r x => ?_⟩
    injection x with x
    subst x
    dsimp only
    refine ⟨by rw [vM_set (by omega) (by omega)], FFa_u (FFa_rf I) (by omega), ?_⟩
    unfold CntI at hc ⊢
    rw [mI_s (by omega) (by omega) (by omega), mI_s (by omega) (by omega) (by omega), mI_s (by omega) (by omega) (by omega), if_neg (by omega), if_neg (by omega), if_neg (by omega)]
    exact hc
theorem pBlk_r {T : Int → Int} {e p : Int} {r : BkR} (he : p ≤ e) (h : pBlk T e p = .ok r) : (p < r.1 ∧ r.1 ≤ e) ∧ (0 ≤ r.2.1 ∧ r.2.1 ≤ 59) ∧ (0 ≤ r.2.2.1 ∧ r.2.2.1 ≤ 39) ∧ (1 ≤ r.2.2.2.1 ∧ r.2.2.2.1 ≤ 9) ∧ (0 ≤ r.2.2.2.2.1 ∧ r.2.2.2.2.1 ≤ 999) := by
  unfold pBlk at h
  cases h1 : pFig T e 0 59 p with
  | error f => rw [h1] at h; exact nomatch h
  | ok a =>
    rw [h1] at h
    have g1 := dg_lt h1
    have s1 := sk_r T e p
    cases h2 : pFig T e 0 39 a.1 with
    | error f => dsimp only at h; rw [h2] at h; exact nomatch h
    | ok b =>
      dsimp only at h
      rw [h2] at h
      have g2 := dg_lt h2
      have s2 := sk_r T e a.1
      cases h3 : pMust T e W_side b.1 with
      | error f => dsimp only at h; rw [h3] at h; exact nomatch h
      | ok c =>
        dsimp only at h
        rw [h3] at h
        have g3 := pMust_r (by decide) h3
        cases h4 : pFig T e 1 9 c with
        | error f => dsimp only at h; rw [h4] at h; exact nomatch h
        | ok g =>
          dsimp only at h
          rw [h4] at h
          have g4 := dg_lt h4
          have s4 := sk_r T e c
          cases h5 : pMust T e W_prize g.1 with
          | error f => dsimp only at h; rw [h5] at h; exact nomatch h
          | ok i =>
            dsimp only at h
            rw [h5] at h
            have g5 := pMust_r (by decide) h5
            cases h6 : pFig T e 0 999 i with
            | error f => dsimp only at h; rw [h6] at h; exact nomatch h
            | ok k =>
              dsimp only at h
              rw [h6] at h
              have g6 := dg_lt h6
              have s6 := sk_r T e i
              injection h with h
              subst h
              have s7 := sk_r T e k.1
              dsimp only
              cases c1 : hasB T e (sk T e k.1) W_velvet with
              | true =>
                have := has_lt c1 (by decide)
                simp only [if_true]
                omega
              | false =>
                simp only [Bool.false_eq_true, if_false]
                omega
theorem pHop_r {T : Int → Int} {e p : Int} {r : HpR} (he : p ≤ e) (h : pHop T e p = .ok r) : (p < r.1 ∧ r.1 ≤ e) ∧ (2 ≤ r.2.1 ∧ r.2.1 ≤ 15) ∧ (0 ≤ r.2.2.1 ∧ r.2.2.1 ≤ 9 ∧ r.2.2.1 < r.2.1) := by
  unfold pHop at h
  cases h1 : pFig T e 2 15 p with
  | error f => rw [h1] at h; exact nomatch h
  | ok a =>
    rw [h1] at h
    have g1 := dg_lt h1
    have s1 := sk_r T e p
    cases h3 : pMust T e W_oval a.1 with
    | error f => dsimp only at h; rw [h3] at h; exact nomatch h
    | ok c =>
      dsimp only at h
      rw [h3] at h
      have g3 := pMust_r (by decide) h3
      cases h4 : pFig T e 0 (min 9 (a.2 - 1)) c with
      | error f => dsimp only at h; rw [h4] at h; exact nomatch h
      | ok k =>
        dsimp only at h
        rw [h4] at h
        have g4 := dg_lt h4
        have s4 := sk_r T e c
        injection h with h
        subst h
        have s7 := sk_r T e k.1
        dsimp only
        cases c1 : hasB T e (sk T e k.1) W_wet with
        | true =>
          have := has_lt c1 (by decide)
          simp only [if_true]
          omega
        | false =>
          simp only [Bool.false_eq_true, if_false]
          omega
theorem pFl_v {I : Nat → Nat → Int32} {T : Int → Int} {e p : Int} (hc : CntI I) (hp : 0 ≤ p ∧ p ≤ e) :
    (∀ f, pFl T e (mI I 3) (mI I 4) (mI I 5) I p = .error f → pLn T e (vM I) p = .error f) ∧
    (∀ r, pFl T e (mI I 3) (mI I 4) (mI I 5) I p = .ok r → pLn T e (vM I) p = .ok (r.1, vM r.2) ∧ FFa I r.2 ∧ CntI r.2) := by
  have hq := sk_0 (T := T) hp
  unfold pFl pLn
  dsimp only
  rw [vM_s (I := I) (z := 3) (by omega), vM_s (I := I) (z := 4) (by omega), vM_s (I := I) (z := 5) (by omega)]
  cases b0 : hasB T e (sk T e p) W_block with
  | true =>
    have hl := has_lt b0 (by decide)
    simp only [if_true]
    by_cases c : mI I 3 = 10
    · rw [if_pos c, if_pos c]
      exact ⟨fun _ x => by injection x with x; rw [x], fun _ x => nomatch x⟩
    · rw [if_neg c, if_neg c]
      cases h : pBlk T e (lw T e (sk T e p)) with
      | error f => exact ⟨fun _ x => by injection x with x; rw [x], fun _ x => nomatch x⟩
      | ok a =>
        have hr := pBlk_r (by omega) h
        refine ⟨fun _ x => (nomatch x), fun r x => ?_⟩
        injection x with x
        subst x
        obtain ⟨k1, k2, k3⟩ := rowB_v hc c hr.2
        exact ⟨by dsimp only; rw [k1], k2, k3⟩
  | false =>
  simp only [if_false, Bool.false_eq_true]
  cases b1 : hasB T e (sk T e p) W_hoop with
  | true =>
    have hl := has_lt b1 (by decide)
    simp only [if_true]
    by_cases c : mI I 4 = 8
    · rw [if_pos c, if_pos c]
      exact ⟨fun _ x => by injection x with x; rw [x], fun _ x => nomatch x⟩
    · rw [if_neg c, if_neg c]
      cases h : pHop T e (lw T e (sk T e p)) with
      | error f => exact ⟨fun _ x => by injection x with x; rw [x], fun _ x => nomatch x⟩
      | ok a =>
        have hr := pHop_r (by omega) h
        refine ⟨fun _ x => (nomatch x), fun r x => ?_⟩
        injection x with x
        subst x
        obtain ⟨k1, k2, k3⟩ := rowH_v hc c (r := a) (by omega)
        exact ⟨by dsimp only; rw [k1], k2, k3⟩
  | false =>
  simp only [if_false, Bool.false_eq_true]
  cases b2 : hasB T e (sk T e p) W_person with
  | true =>
    have hl := has_lt b2 (by decide)
    simp only [if_true]
    by_cases c : mI I 5 = 6
    · rw [if_pos c, if_pos c]
      exact ⟨fun _ x => by injection x with x; rw [x], fun _ x => nomatch x⟩
    · rw [if_neg c, if_neg c]
      cases h : pFig T e 0 99 (lw T e (sk T e p)) with
      | error f => exact ⟨fun _ x => by injection x with x; rw [x], fun _ x => nomatch x⟩
      | ok a =>
        have hr := dg_lt h
        refine ⟨fun _ x => (nomatch x), fun r x => ?_⟩
        injection x with x
        subst x
        obtain ⟨k1, k2, k3⟩ := rowP_v hc c (v := a.2) (by omega)
        exact ⟨by dsimp only; rw [k1], k2, k3⟩
  | false =>
  simp only [if_false, Bool.false_eq_true]
  cases b3 : hasB T e (sk T e p) W_price with
  | true =>
    have hl := has_lt b3 (by decide)
    simp only [if_true]
    exact pSet_v hc (by omega) (by omega) (by omega)
  | false =>
  simp only [if_false, Bool.false_eq_true]
  cases b4 : hasB T e (sk T e p) W_bounce with
  | true =>
    have hl := has_lt b4 (by decide)
    simp only [if_true]
    exact pSet_v hc (by omega) (by omega) (by omega)
  | false =>
  simp only [if_false, Bool.false_eq_true]
  cases b5 : hasB T e (sk T e p) W_knock with
  | true =>
    have hl := has_lt b5 (by decide)
    simp only [if_true]
    exact pSet_v hc (by omega) (by omega) (by omega)
  | false =>
  simp only [if_false, Bool.false_eq_true]
  cases b6 : hasB T e (sk T e p) W_counts with
  | true =>
    have hl := has_lt b6 (by decide)
    simp only [if_true]
    exact pSet_v hc (by omega) (by omega) (by omega)
  | false =>
  simp only [if_false, Bool.false_eq_true]
  exact ⟨fun _ x => by injection x with x; rw [x], fun _ x => nomatch x⟩
theorem pLn_sk (T : Int → Int) (e : Int) (m : Int → Int) (p : Int) : pLn T e m (sk T e p) = pLn T e m p := by
  unfold pLn
  rw [sk_sk]
end FRV
