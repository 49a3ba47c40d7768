/-! THE CLASS reads a whole fair; fair() -/
theorem setm_c {m : Int → Int} {z v : Int} (hz : 6 ≤ z ∧ z ≤ 9) {y : Int} (h : y ≠ z) : setm m z v y = m y := setm_o _ h
theorem BD_set {m : Int → Int} {z v hi : Int} (hB : BD m) (h : (z = 6 ∧ hi = 99) ∨ (z = 7 ∧ hi = 3) ∨ (z = 8 ∧ hi = 9) ∨ (z = 9 ∧ hi = 1)) (hv : 0 ≤ v ∧ v ≤ hi) : BD (setm m z v) := by
  obtain ⟨h3, h4, h5, h6, h7, h8, h9, h13, h14, hb, hh, hp⟩ := hB
  have e : ∀ y, ¬(6 ≤ y ∧ y ≤ 9) → setm m z v y = m y := fun y hy => setm_o _ (by omega)
  have e3 := e 3 (by omega)
  have e4 := e 4 (by omega)
  have e5 := e 5 (by omega)
  have e13 := e 13 (by omega)
  have e14 := e 14 (by omega)
  refine ⟨by rw [e3]; exact h3, by rw [e4]; exact h4, by rw [e5]; exact h5, ?_, ?_, ?_, ?_, by rw [e13]; exact h13, by rw [e14]; exact h14, ?_, ?_, ?_⟩
  · by_cases c : z = 6
    · subst c; rw [setm_s]; omega
    · rw [setm_o _ (by omega)]; exact h6
  · by_cases c : z = 7
    · subst c; rw [setm_s]; omega
    · rw [setm_o _ (by omega)]; exact h7
  · by_cases c : z = 8
    · subst c; rw [setm_s]; omega
    · rw [setm_o _ (by omega)]; exact h8
  · by_cases c : z = 9
    · subst c; rw [setm_s]; omega
    · rw [setm_o _ (by omega)]; exact h9
  · intro b b0 b1
    rw [e3] at b1
    have g := hb b b0 b1
    have q : ∀ j, 0 ≤ j → bl (setm m z v) b j = bl m b j := fun j hj => e _ (by omega)
    rw [q 0 (by omega), q 1 (by omega), q 2 (by omega), q 3 (by omega), q 4 (by omega)]
    exact g
  · intro b b0 b1
    rw [e4] at b1
    have g := hh b b0 b1
    have q : ∀ j, 0 ≤ j → ho (setm m z v) b j = ho m b j := fun j hj => e _ (by omega)
    rw [q 0 (by omega), q 1 (by omega), q 2 (by omega)]
    exact g
  · intro b b0 b1
    rw [e5] at b1
    have g := hp b b0 b1
    have q : pe (setm m z v) b 0 = pe m b 0 := e _ (by omega)
    rw [q]
    exact g
theorem BD_addB {m : Int → Int} {x y s p v : Int} (hB : BD m) (hn : m 3 ≠ 10) (h : (0 ≤ x ∧ x ≤ 59) ∧ (0 ≤ y ∧ y ≤ 39) ∧ (1 ≤ s ∧ s ≤ 9) ∧ (0 ≤ p ∧ p ≤ 999) ∧ 0 ≤ v ∧ v ≤ 1) : BD (addB m x y s p v) := by
  obtain ⟨h3, h4, h5, h6, h7, h8, h9, h13, h14, hb, hh, hp⟩ := hB
  obtain ⟨m', hm'⟩ : ∃ m', m' = addB m x y s p v := ⟨_, rfl⟩
  have q : ∀ z, m' z = if z = 20 + 5 * m 3 + 4 then v else if z = 20 + 5 * m 3 + 3 then p else if z = 20 + 5 * m 3 + 2 then s else if z = 20 + 5 * m 3 + 1 then y else if z = 20 + 5 * m 3 + 0 then x else if z = 3 then m 3 + 1 else m z := fun z => by rw [hm']; rfl
  have o : ∀ z, z ≠ 3 → ¬(20 + 5 * m 3 ≤ z ∧ z ≤ 20 + 5 * m 3 + 4) → m' z = m z := fun z h1 h2 => by rw [q, if_neg (by omega), if_neg (by omega), if_neg (by omega), if_neg (by omega), if_neg (by omega), if_neg h1]
  have q3 : m' 3 = m 3 + 1 := by rw [q, if_neg (by omega), if_neg (by omega), if_neg (by omega), if_neg (by omega), if_neg (by omega), if_pos rfl]
  rw [← hm']
  refine ⟨by omega, by rw [o 4 (by omega) (by omega)]; exact h4, by rw [o 5 (by omega) (by omega)]; exact h5, by rw [o 6 (by omega) (by omega)]; exact h6, by rw [o 7 (by omega) (by omega)]; exact h7, by rw [o 8 (by omega) (by omega)]; exact h8, by rw [o 9 (by omega) (by omega)]; exact h9, by rw [o 13 (by omega) (by omega)]; exact h13, by rw [o 14 (by omega) (by omega)]; exact h14, ?_, ?_, ?_⟩
  · intro b b0 b1
    unfold bl
    by_cases c : b = m 3
    · rw [c]
      rw [q (20 + 5 * m 3 + 0), q (20 + 5 * m 3 + 1), q (20 + 5 * m 3 + 2), q (20 + 5 * m 3 + 3), q (20 + 5 * m 3 + 4)]
      rw [if_neg (by omega), if_neg (by omega), if_neg (by omega), if_neg (by omega), if_pos rfl, if_neg (by omega), if_neg (by omega), if_neg (by omega), if_pos rfl, if_neg (by omega), if_neg (by omega), if_pos rfl, if_neg (by omega), if_pos rfl, if_pos rfl]
      exact h
    · have g := hb b b0 (by omega)
      rw [o _ (by omega) (by omega), o _ (by omega) (by omega), o _ (by omega) (by omega), o _ (by omega) (by omega), o _ (by omega) (by omega)]
      exact g
  · intro b b0 b1
    rw [o 4 (by omega) (by omega)] at b1
    have g := hh b b0 b1
    unfold ho
    rw [o _ (by omega) (by omega), o _ (by omega) (by omega), o _ (by omega) (by omega)]
    exact g
  · intro b b0 b1
    rw [o 5 (by omega) (by omega)] at b1
    have g := hp b b0 b1
    unfold pe
    rw [o _ (by omega) (by omega)]
    exact g
theorem BD_addH {m : Int → Int} {x y v : Int} (hB : BD m) (hn : m 4 ≠ 8) (h : (2 ≤ x ∧ x ≤ 15) ∧ (0 ≤ y ∧ y ≤ 9 ∧ y < x) ∧ 0 ≤ v ∧ v ≤ 1) : BD (addH m x y v) := by
  obtain ⟨h3, h4, h5, h6, h7, h8, h9, h13, h14, hb, hh, hp⟩ := hB
  obtain ⟨m', hm'⟩ : ∃ m', m' = addH m x y v := ⟨_, rfl⟩
  have q : ∀ z, m' z = if z = 70 + 3 * m 4 + 2 then v else if z = 70 + 3 * m 4 + 1 then y else if z = 70 + 3 * m 4 + 0 then x else if z = 4 then m 4 + 1 else m z := fun z => by rw [hm']; rfl
  have o : ∀ z, z ≠ 4 → ¬(70 + 3 * m 4 ≤ z ∧ z ≤ 70 + 3 * m 4 + 2) → m' z = m z := fun z h1 h2 => by rw [q, if_neg (by omega), if_neg (by omega), if_neg (by omega), if_neg h1]
  have q3 : m' 4 = m 4 + 1 := by rw [q, if_neg (by omega), if_neg (by omega), if_neg (by omega), if_pos rfl]
  rw [← hm']
  refine ⟨by rw [o 3 (by omega) (by omega)]; exact h3, by omega, by rw [o 5 (by omega) (by omega)]; exact h5, by rw [o 6 (by omega) (by omega)]; exact h6, by rw [o 7 (by omega) (by omega)]; exact h7, by rw [o 8 (by omega) (by omega)]; exact h8, by rw [o 9 (by omega) (by omega)]; exact h9, by rw [o 13 (by omega) (by omega)]; exact h13, by rw [o 14 (by omega) (by omega)]; exact h14, ?_, ?_, ?_⟩
  · intro b b0 b1
    rw [o 3 (by omega) (by omega)] at b1
    have g := hb b b0 b1
    unfold bl
    rw [o _ (by omega) (by omega), o _ (by omega) (by omega), o _ (by omega) (by omega), o _ (by omega) (by omega), o _ (by omega) (by omega)]
    exact g
  · intro b b0 b1
    unfold ho
    by_cases c : b = m 4
    · rw [c]
      rw [q (70 + 3 * m 4 + 0), q (70 + 3 * m 4 + 1), q (70 + 3 * m 4 + 2)]
      rw [if_neg (by omega), if_neg (by omega), if_pos rfl, if_neg (by omega), if_pos rfl, if_pos rfl]
      exact h
    · have g := hh b b0 (by omega)
      rw [o _ (by omega) (by omega), o _ (by omega) (by omega), o _ (by omega) (by omega)]
      exact g
  · intro b b0 b1
    rw [o 5 (by omega) (by omega)] at b1
    have g := hp b b0 b1
    unfold pe
    rw [o _ (by omega) (by omega)]
    exact g
theorem BD_addP {m : Int → Int} {x : Int} (hB : BD m) (hn : m 5 ≠ 6) (h : 0 ≤ x ∧ x ≤ 99) : BD (addP m x) := by
  obtain ⟨h3, h4, h5, h6, h7, h8, h9, h13, h14, hb, hh, hp⟩ := hB
  obtain ⟨m', hm'⟩ : ∃ m', m' = addP m x := ⟨_, rfl⟩
  have q : ∀ z, m' z = if z = 94 + 3 * m 5 + 0 then x else if z = 5 then m 5 + 1 else m z := fun z => by rw [hm']; rfl
  have o : ∀ z, z ≠ 5 → z ≠ 94 + 3 * m 5 + 0 → m' z = m z := fun z h1 h2 => by rw [q, if_neg (by omega), if_neg h1]
  have q3 : m' 5 = m 5 + 1 := by rw [q, if_neg (by omega), if_pos rfl]
  rw [← hm']
  refine ⟨by rw [o 3 (by omega) (by omega)]; exact h3, by rw [o 4 (by omega) (by omega)]; exact h4, by omega, by rw [o 6 (by omega) (by omega)]; exact h6, by rw [o 7 (by omega) (by omega)]; exact h7, by rw [o 8 (by omega) (by omega)]; exact h8, by rw [o 9 (by omega) (by omega)]; exact h9, by rw [o 13 (by omega) (by omega)]; exact h13, by rw [o 14 (by omega) (by omega)]; exact h14, ?_, ?_, ?_⟩
  · intro b b0 b1
    rw [o 3 (by omega) (by omega)] at b1
    have g := hb b b0 b1
    unfold bl
    rw [o _ (by omega) (by omega), o _ (by omega) (by omega), o _ (by omega) (by omega), o _ (by omega) (by omega), o _ (by omega) (by omega)]
    exact g
  · intro b b0 b1
    rw [o 4 (by omega) (by omega)] at b1
    have g := hh b b0 b1
    unfold ho
    rw [o _ (by omega) (by omega), o _ (by omega) (by omega), o _ (by omega) (by omega)]
    exact g
  · intro b b0 b1
    unfold pe
    by_cases c : b = m 5
    · rw [c, q, if_pos rfl]; exact h
    · have g := hp b b0 (by omega)
      rw [o _ (by omega) (by omega)]
      exact g
theorem bI_r (b : Bool) : 0 ≤ bI b ∧ bI b ≤ 1 := by unfold bI; split <;> omega
/-- a line keeps the bounds, and nothing but its own kinds of cells changes -/
theorem pLn_BD {T : Int → Int} {e p : Int} {m : Int → Int} {r : Int × (Int → Int)} (hB : BD m) (hp : 0 ≤ p ∧ p ≤ e) (h : pLn T e m p = .ok r) : BD r.2 ∧ ∀ z, ¬(3 ≤ z ∧ z ≤ 9) → ¬(20 ≤ z ∧ z < 112) → r.2 z = m z := by
  have h3 := hB.1
  have h4 := hB.2.1
  have h5 := hB.2.2.1
  have hq := sk_0 (T := T) hp
  have st : ∀ (z hi : Int) (ws : List Int), ws ≠ [] → hasB T e (sk T e p) ws = true → ((z = 6 ∧ hi = 99) ∨ (z = 7 ∧ hi = 3) ∨ (z = 8 ∧ hi = 9) ∨ (z = 9 ∧ hi = 1)) → pStI T e m z hi (lw T e (sk T e p)) = .ok r → BD r.2 ∧ ∀ z, ¬(3 ≤ z ∧ z ≤ 9) → ¬(20 ≤ z ∧ z < 112) → r.2 z = m z := by
    intro z hi ws hne hw hz h
    unfold pStI at h
    cases c : pFig T e 0 hi (lw T e (sk T e p)) with
    | error f => rw [c] at h; exact nomatch h
    | ok a =>
      have ha := dg_lt c
      rw [c] at h
      injection h with h
      subst h
      exact ⟨BD_set hB hz (by omega), fun y h1 h2 => setm_o _ (by omega)⟩
  unfold pLn at h
  dsimp only at h
  cases b0 : hasB T e (sk T e p) W_block with
  | true =>
    have hl := has_lt b0 (by decide)
    rw [b0, if_pos rfl] at h
    by_cases c : m 3 = 10
    · rw [if_pos c] at h; exact nomatch h
    · rw [if_neg c] at h
      cases c1 : pBlk T e (lw T e (sk T e p)) with
      | error f => rw [c1] at h; exact nomatch h
      | ok a =>
        have ha := pBlk_r (by omega) c1
        rw [c1] at h
        injection h with h
        subst h
        exact ⟨BD_addB hB c ⟨ha.2.1, ha.2.2.1, ha.2.2.2.1, ha.2.2.2.2, bI_r _⟩, fun y h1 h2 => by
          dsimp only
          unfold addB
          rw [setm_o _ (by omega), setm_o _ (by omega), setm_o _ (by omega), setm_o _ (by omega), setm_o _ (by omega), setm_o _ (by omega)]⟩
  | false =>
  rw [b0, if_neg (by decide)] at h
  cases b1 : hasB T e (sk T e p) W_hoop with
  | true =>
    have hl := has_lt b1 (by decide)
    rw [b1, if_pos rfl] at h
    by_cases c : m 4 = 8
    · rw [if_pos c] at h; exact nomatch h
    · rw [if_neg c] at h
      cases c1 : pHop T e (lw T e (sk T e p)) with
      | error f => rw [c1] at h; exact nomatch h
      | ok a =>
        have ha := pHop_r (by omega) c1
        rw [c1] at h
        injection h with h
        subst h
        exact ⟨BD_addH hB c ⟨ha.2.1, ha.2.2, bI_r _⟩, fun y h1 h2 => by
          dsimp only
          unfold addH
          rw [setm_o _ (by omega), setm_o _ (by omega), setm_o _ (by omega), setm_o _ (by omega)]⟩
  | false =>
  rw [b1, if_neg (by decide)] at h
  cases b2 : hasB T e (sk T e p) W_person with
  | true =>
    have hl := has_lt b2 (by decide)
    rw [b2, if_pos rfl] at h
    by_cases c : m 5 = 6
    · rw [if_pos c] at h; exact nomatch h
    · rw [if_neg c] at h
      cases c1 : pFig T e 0 99 (lw T e (sk T e p)) with
      | error f => rw [c1] at h; exact nomatch h
      | ok a =>
        have ha := dg_lt c1
        rw [c1] at h
        injection h with h
        subst h
        exact ⟨BD_addP hB c (by omega), fun y h1 h2 => by
          dsimp only
          unfold addP
          rw [setm_o _ (by omega), setm_o _ (by omega)]⟩
  | false =>
  rw [b2, if_neg (by decide)] at h
  cases b3 : hasB T e (sk T e p) W_price with
  | true => rw [b3, if_pos rfl] at h; exact st 6 99 _ (by decide) b3 (by omega) h
  | false =>
  rw [b3, if_neg (by decide)] at h
  cases b4 : hasB T e (sk T e p) W_bounce with
  | true => rw [b4, if_pos rfl] at h; exact st 7 3 _ (by decide) b4 (by omega) h
  | false =>
  rw [b4, if_neg (by decide)] at h
  cases b5 : hasB T e (sk T e p) W_knock with
  | true => rw [b5, if_pos rfl] at h; exact st 8 9 _ (by decide) b5 (by omega) h
  | false =>
  rw [b5, if_neg (by decide)] at h
  cases b6 : hasB T e (sk T e p) W_counts with
  | true => rw [b6, if_pos rfl] at h; exact st 9 1 _ (by decide) b6 (by omega) h
  | false =>
  rw [b6, if_neg (by decide)] at h
  exact nomatch h
section FRY
variable {vn vc vw : Nat} {K L : Nat → Nat} {R : Nat → Nat → Nat} {I : Nat → Nat → Int32} {J : Nat → Nat → Int64}
/-- what reading a fair leaves alone, with the tape's things -/
def FEr (I I' : Nat → Nat → Int32) : Prop := ∀ a k, ¬(84 ≤ a ∧ a ≤ 86) → (a = 82 → k ≠ 5 ∧ k ≠ 6) → ¬(a = 117 ∨ a = 119 ∨ a = 121) → (a = 116 ∨ a = 118 ∨ a = 120 → k ≠ 2) → (a = 115 → ¬(12 ≤ k ∧ k ≤ 15)) → I' a k = I a k
def GoE (I : Nat → Nat → Int32) (σ : (Nat → Nat → Int32) → HS) (T : Int → Int) (e : Int) (m : Int → Int) (res : Option Res) (r : Except Int (Int → Int)) : Prop :=
  ∃ n tb j I', TkI I' T e n tb ∧ I' 82 6 = w j ∧ (0 ≤ j ∧ j ≤ n) ∧ FEr I I' ∧ match r with
    | .ok m' => res = some (.inl (some (.int (w 1))), σ I') ∧ vS I' 115 = m' ∧ BD m' ∧ ∀ z, ¬(3 ≤ z ∧ z ≤ 9) → ¬(20 ≤ z ∧ z < 112) → m' z = m z
    | .error f => res = some (.inl (some (.int (w 0))), σ I') ∧ tb j = f
theorem sp_19 {d : Nat} {T : Int → Int} {e : Int} (hX : XSH K L R) (hS : SHq K L R 115) (hT : Tp I T e) (hA : SWA K L I) (hWd : Wd I 115) (hB : BD (vS I 115)) :
    GoE I (fun I' => (((vn, vc, vw, K, L, R), I', J) : HS)) T e (vS I 115) (ev PR (d + 7) 19 [.ref 87, .ref 115] (((vn, vc, vw, K, L, R), I, J) : HS)) (pFair T e (vS I 115)) := by
  obtain ⟨I0, n, tb, x0, hG, h6, hF⟩ := sp_141 (d := d + 1) (vn := vn) (vc := vc) (vw := vw) (J := J) hX hT
  have hT0 : Tp I0 T e := Tp_f (fun a k x => hF a k (by omega) (by omega)) hT
  have hD0 : DrA K L I0 T e n tb := by
    refine ⟨hT0, hG, SWA_f (fun a k x => hF a k (by omega) (by omega)) hA, ?_⟩
    obtain ⟨h1, h2, h3, h4, h5⟩ := hWd
    exact ⟨(hF _ _ (by omega) (by omega)).trans h1, (hF _ _ (by omega) (by omega)).trans h2, (hF _ _ (by omega) (by omega)).trans h3, (hF _ _ (by omega) (by omega)).trans h4, (hF _ _ (by omega) (by omega)).trans h5⟩
  have v0 : vS I0 115 = vS I 115 := by
    funext z
    exact congrFun (vS_cp (q0 := 115) (q1 := 115) ⟨hF _ _ (by omega) (by omega), hF _ _ (by omega) (by omega), hF _ _ (by omega) (by omega), hF _ _ (by omega) (by omega), hF _ _ (by omega) (by omega)⟩ (fun k _ => hF _ _ (by omega) (by omega)) (fun k _ => hF _ _ (by omega) (by omega)) (fun k _ => hF _ _ (by omega) (by omega)) (fun k _ => hF _ _ (by omega) (by omega)) (fun k _ => hF _ _ (by omega) (by omega)) (fun k _ _ => hF _ _ (by omega) (by omega))) z
  have hn := hG.2.1
  have he := hT.2.1
  have fe : ∀ I', FDr I0 I' → ∀ j, FEr I (nx I' j) := fun I' h j a k x1 x2 x3 x4 x5 => by
    rw [nx_o _ _ (by omega), h a k x3 x4 x5 (by omega)]
    exact hF a k x1 x2
  have tk : ∀ I', FDr I0 I' → ∀ j, TkI (nx I' j) T e n tb := fun I' h j => TkI_f (fun a k x => by rw [nx_o _ _ (by omega), h a k (by omega) (by omega) (by omega) (by omega)]) hG
  obtain ⟨σ, hσ⟩ : ∃ σ : (Nat → Nat → Int32) → HS, σ = fun I' => (((vn, vc, vw, K, L, R), I', J) : HS) := ⟨_, rfl⟩
  have lp : ∀ (n' : Nat) (c i p : Int) (I1 : Nat → Nat → Int32), n' + c = 14 → 0 ≤ c → (0 ≤ i ∧ i ≤ n) → sk T e p = tb i → FDr I0 I1 → BD (vS I1 115) → (∀ z, ¬(3 ≤ z ∧ z ≤ 9) → ¬(20 ≤ z ∧ z < 112) → vS I1 115 z = vS I 115 z) → GoE I (fun I' => (((vn, vc, vw, K, L, R), I', J) : HS)) T e (vS I 115) (atv PR (d + 6) cd_19 11 [.ref 87, .ref 115, .int (w c)] [] (((vn, vc, vw, K, L, R), nx I1 i, J) : HS)) (fairN T e n' (vS I1 115) p) := by
    intro n'
    induction n' with
    | zero =>
      intro c i p I1 hc h0 hi hp hf hB1 hm1
      refine ⟨n, tb, i, nx I1 i, tk I1 hf i, nx_6 _ _, hi, fe I1 hf i, ?_, hp.symm⟩
      rw [eq_19_11]
      simp (disch := first | assumption | omega | (simp (disch := omega) only [vM_u, vS_u]; first | assumption | omega)) only [hK, hL, hR, hI, hN, sI, hSp, hC, hW, li, lr, ↓cnd_a, ↓cnd_o, ↓cnd_n, ↓cnd_d, ↓z0, ↓z1, ↓z2, y0n, y1i, y2r, y0e, y1e, y2e, wl_0, wl_1, wl_2, wl_3, wl_4, wl_5, wl_6, wl_7, wl_8, wl_9, wl_10, wl_11, wl_12, wl_13, wl_14, wl_15, wl_16, wl_17, wl_18, wl_19, wl_20, wl_21, wl_22, wl_23, wl_24, wl_25, wl_26, wl_27, wl_28, wl_29, wl_30, wl_31, wl_32, wl_33, wl_34, wl_35, wl_36, wl_37, wl_38, wl_39, wl_40, wl_41, wl_42, wl_43, wl_44, wl_45, wl_46, wl_47, wl_48, wl_49, wl_50, wl_51, wl_52, wl_53, wl_54, wl_55, wl_56, wl_57, wl_58, wl_59, wl_60, wl_61, wl_62, wl_63, wl_64, wl_65, wl_66, wl_67, wl_68, wl_69, wl_70, wl_71, wl_72, wl_73, wl_74, wl_75, wl_76, wl_77, wl_78, wl_79, wl_80, wl_81, wl_82, wl_83, wl_84, wl_85, wl_86, wl_87, wl_88, wl_89, wl_90, wl_91, wl_92, wl_93, wl_94, wl_95, wl_96, wl_97, wl_98, wl_99, wl_100, wl_101, wl_102, wl_103, wl_104, wl_105, wl_106, wl_107, wl_108, wl_109, wl_110, wl_111, wl_112, wl_113, wl_114, wl_115, wl_116, wl_117, wl_118, wl_119, wl_120, wl_121, wl_122, wl_123, wl_124, wl_125, wl_126, wl_127, wl_128, wl_129, wl_130, wl_159, wl_160, wl_200, wl_232, wl_255, wl_256, wl_300, wl_359, wl_360, wl_400, wl_592, wl_992, wl_999, wl_1000, wl_1024, wl_3456, wl_6512, wl_7104, wl_10000, wl_11264, wl_12345, wl_32767, wl_1000000000, wl_1103515245, wl_2000000000, w_add, w_sub, w_mul, w_neg, w_lt, w_le, w_eq, w_cl, w_in, w_nat, w_max2, w_min2, w_abs2, iltT, iltF, ileT, ileF, ieqT, ieqF, bv_01, bft, bv_0, bv_1, bv_t, bv_f, cond_true, cond_false, Bool.not_true, Bool.not_false, if_true, if_false, true_or, or_true, true_and, and_true, ↓reduceIte, decide_true, decide_false, reduceCtorEq, u2_s, u2_o, u2_k, u2_u2, Bool.true_or, Bool.or_true, Bool.false_or, Bool.or_false, Bool.and_true, Bool.true_and, Bool.and_false, Bool.false_and, eq_self, not_true_eq_false, not_false_eq_true, and_self, and_true, true_and, false_and, and_false, w_dv, dvm]
    | succ n' ih =>
      intro c i p I1 hc h0 hi hp hf hB1 hm1
      have D1 := DrA_f hf hD0
      have g := sp_20 (d := d + 1) (i := i) (vn := vn) (vc := vc) (vw := vw) (J := J) hX hS D1 hi hB1
      have hpe := TkI_tb D1.2.1 hi he.1
      unfold fairN
      rw [← pLn_sk, hp]
      cases hr : pLn T e (vS I1 115) (tb i) with
      | error f =>
        rw [hr] at g
        obtain ⟨I2, j, y1, y2, y3, y4⟩ := g
        have hf2 := FDr_tr hf y2
        refine ⟨n, tb, j, nx I2 j, tk I2 hf2 j, nx_6 _ _, y3, fe I2 hf2 j, ?_, y4⟩
        rw [eq_19_11]
        simp (disch := first | assumption | omega | (simp (disch := omega) only [vM_u, vS_u]; first | assumption | omega)) only [hK, hL, hR, hI, hN, sI, hSp, hC, hW, li, lr, ↓cnd_a, ↓cnd_o, ↓cnd_n, ↓cnd_d, ↓z0, ↓z1, ↓z2, y0n, y1i, y2r, y0e, y1e, y2e, wl_0, wl_1, wl_2, wl_3, wl_4, wl_5, wl_6, wl_7, wl_8, wl_9, wl_10, wl_11, wl_12, wl_13, wl_14, wl_15, wl_16, wl_17, wl_18, wl_19, wl_20, wl_21, wl_22, wl_23, wl_24, wl_25, wl_26, wl_27, wl_28, wl_29, wl_30, wl_31, wl_32, wl_33, wl_34, wl_35, wl_36, wl_37, wl_38, wl_39, wl_40, wl_41, wl_42, wl_43, wl_44, wl_45, wl_46, wl_47, wl_48, wl_49, wl_50, wl_51, wl_52, wl_53, wl_54, wl_55, wl_56, wl_57, wl_58, wl_59, wl_60, wl_61, wl_62, wl_63, wl_64, wl_65, wl_66, wl_67, wl_68, wl_69, wl_70, wl_71, wl_72, wl_73, wl_74, wl_75, wl_76, wl_77, wl_78, wl_79, wl_80, wl_81, wl_82, wl_83, wl_84, wl_85, wl_86, wl_87, wl_88, wl_89, wl_90, wl_91, wl_92, wl_93, wl_94, wl_95, wl_96, wl_97, wl_98, wl_99, wl_100, wl_101, wl_102, wl_103, wl_104, wl_105, wl_106, wl_107, wl_108, wl_109, wl_110, wl_111, wl_112, wl_113, wl_114, wl_115, wl_116, wl_117, wl_118, wl_119, wl_120, wl_121, wl_122, wl_123, wl_124, wl_125, wl_126, wl_127, wl_128, wl_129, wl_130, wl_159, wl_160, wl_200, wl_232, wl_255, wl_256, wl_300, wl_359, wl_360, wl_400, wl_592, wl_992, wl_999, wl_1000, wl_1024, wl_3456, wl_6512, wl_7104, wl_10000, wl_11264, wl_12345, wl_32767, wl_1000000000, wl_1103515245, wl_2000000000, w_add, w_sub, w_mul, w_neg, w_lt, w_le, w_eq, w_cl, w_in, w_nat, w_max2, w_min2, w_abs2, iltT, iltF, ileT, ileF, ieqT, ieqF, bv_01, bft, bv_0, bv_1, bv_t, bv_f, cond_true, cond_false, Bool.not_true, Bool.not_false, if_true, if_false, true_or, or_true, true_and, and_true, ↓reduceIte, decide_true, decide_false, reduceCtorEq, u2_s, u2_o, u2_k, u2_u2, Bool.true_or, Bool.or_true, Bool.false_or, Bool.or_false, Bool.and_true, Bool.true_and, Bool.and_false, Bool.false_and, eq_self, not_true_eq_false, not_false_eq_true, and_self, and_true, true_and, false_and, and_false, w_dv, dvm, XSH_e hX, y1]
      | ok r =>
        rw [hr] at g
        obtain ⟨I2, j, y1, y2, y3, y4, y5⟩ := g
        have hf2 := FDr_tr hf y2
        have D2 := DrA_f hf2 hD0
        have hj : 0 ≤ j ∧ j ≤ n := by omega
        have hje := TkI_tb D2.2.1 hj he.1
        have hb2 := pLn_BD hB1 ⟨hpe.1, hpe.2.1⟩ hr
        have hm2 : ∀ z, ¬(3 ≤ z ∧ z ≤ 9) → ¬(20 ≤ z ∧ z < 112) → r.2 z = vS I 115 z := fun z h1 h2 => (hb2.2 z h1 h2).trans (hm1 z h1 h2)
        have s147 := sp_149 (d := d + 5) (i := j) (I := nx I2 j) (vn := vn) (vc := vc) (vw := vw) (J := J) hX (tk I2 hf2 j) (nx_6 _ _) hj
        dsimp only
        rw [y4]
        by_cases c1 : tb j = e
        · have c2 : ¬(j < n) := fun x => by have := hje.2.2.2.mpr x; omega
          rw [if_neg c2] at s147
          rw [if_pos c1]
          refine ⟨n, tb, j, nx I2 j, tk I2 hf2 j, nx_6 _ _, hj, fe I2 hf2 j, ?_, by rw [vS_nx, y5], hb2.1, hm2⟩
          rw [eq_19_11]
          simp (disch := first | assumption | omega | (simp (disch := omega) only [vM_u, vS_u]; first | assumption | omega)) only [hK, hL, hR, hI, hN, sI, hSp, hC, hW, li, lr, ↓cnd_a, ↓cnd_o, ↓cnd_n, ↓cnd_d, ↓z0, ↓z1, ↓z2, y0n, y1i, y2r, y0e, y1e, y2e, wl_0, wl_1, wl_2, wl_3, wl_4, wl_5, wl_6, wl_7, wl_8, wl_9, wl_10, wl_11, wl_12, wl_13, wl_14, wl_15, wl_16, wl_17, wl_18, wl_19, wl_20, wl_21, wl_22, wl_23, wl_24, wl_25, wl_26, wl_27, wl_28, wl_29, wl_30, wl_31, wl_32, wl_33, wl_34, wl_35, wl_36, wl_37, wl_38, wl_39, wl_40, wl_41, wl_42, wl_43, wl_44, wl_45, wl_46, wl_47, wl_48, wl_49, wl_50, wl_51, wl_52, wl_53, wl_54, wl_55, wl_56, wl_57, wl_58, wl_59, wl_60, wl_61, wl_62, wl_63, wl_64, wl_65, wl_66, wl_67, wl_68, wl_69, wl_70, wl_71, wl_72, wl_73, wl_74, wl_75, wl_76, wl_77, wl_78, wl_79, wl_80, wl_81, wl_82, wl_83, wl_84, wl_85, wl_86, wl_87, wl_88, wl_89, wl_90, wl_91, wl_92, wl_93, wl_94, wl_95, wl_96, wl_97, wl_98, wl_99, wl_100, wl_101, wl_102, wl_103, wl_104, wl_105, wl_106, wl_107, wl_108, wl_109, wl_110, wl_111, wl_112, wl_113, wl_114, wl_115, wl_116, wl_117, wl_118, wl_119, wl_120, wl_121, wl_122, wl_123, wl_124, wl_125, wl_126, wl_127, wl_128, wl_129, wl_130, wl_159, wl_160, wl_200, wl_232, wl_255, wl_256, wl_300, wl_359, wl_360, wl_400, wl_592, wl_992, wl_999, wl_1000, wl_1024, wl_3456, wl_6512, wl_7104, wl_10000, wl_11264, wl_12345, wl_32767, wl_1000000000, wl_1103515245, wl_2000000000, w_add, w_sub, w_mul, w_neg, w_lt, w_le, w_eq, w_cl, w_in, w_nat, w_max2, w_min2, w_abs2, iltT, iltF, ileT, ileF, ieqT, ieqF, bv_01, bft, bv_0, bv_1, bv_t, bv_f, cond_true, cond_false, Bool.not_true, Bool.not_false, if_true, if_false, true_or, or_true, true_and, and_true, ↓reduceIte, decide_true, decide_false, reduceCtorEq, u2_s, u2_o, u2_k, u2_u2, Bool.true_or, Bool.or_true, Bool.false_or, Bool.or_false, Bool.and_true, Bool.true_and, Bool.and_false, Bool.false_and, eq_self, not_true_eq_false, not_false_eq_true, and_self, and_true, true_and, false_and, and_false, w_dv, dvm, XSH_e hX, y1, s147]
        · have c2 : j < n := hje.2.2.2.mp (by omega)
          rw [if_pos c2] at s147
          rw [if_neg c1]
          have s152 := sp_154 (d := d + 4) (i := j) (c := 59) (I := I2) (vn := vn) (vc := vc) (vw := vw) (J := J) hX D2.1 D2.2.1 hj (by omega)
          by_cases c3 : T (tb j) = 59
          · have c4 : sgB T e (tb j) 59 = true := by
              unfold sgB
              rw [decide_eq_true (by omega), decide_eq_true c3]
              rfl
            rw [c4, cond_true] at s152
            rw [if_pos c3]
            have c5 := tend_s c4 (by omega)
            have c6 : sk T e (tb j + 1) = tb (j + 1) := by rw [TkI_st D2.2.1 ⟨hj.1, c2⟩, c5.2]
            have key : atv PR (d + 6) cd_19 11 [.ref 87, .ref 115, .int (w c)] [] (((vn, vc, vw, K, L, R), nx I1 i, J) : HS) = atv PR (d + 6) cd_19 11 [.ref 87, .ref 115, .int (w (c + 1))] [] (((vn, vc, vw, K, L, R), nx I2 (j + 1), J) : HS) := by
              rw [eq_19_11]
              simp (disch := first | assumption | omega | (simp (disch := omega) only [vM_u, vS_u]; first | assumption | omega)) only [hK, hL, hR, hI, hN, sI, hSp, hC, hW, li, lr, ↓cnd_a, ↓cnd_o, ↓cnd_n, ↓cnd_d, ↓z0, ↓z1, ↓z2, y0n, y1i, y2r, y0e, y1e, y2e, wl_0, wl_1, wl_2, wl_3, wl_4, wl_5, wl_6, wl_7, wl_8, wl_9, wl_10, wl_11, wl_12, wl_13, wl_14, wl_15, wl_16, wl_17, wl_18, wl_19, wl_20, wl_21, wl_22, wl_23, wl_24, wl_25, wl_26, wl_27, wl_28, wl_29, wl_30, wl_31, wl_32, wl_33, wl_34, wl_35, wl_36, wl_37, wl_38, wl_39, wl_40, wl_41, wl_42, wl_43, wl_44, wl_45, wl_46, wl_47, wl_48, wl_49, wl_50, wl_51, wl_52, wl_53, wl_54, wl_55, wl_56, wl_57, wl_58, wl_59, wl_60, wl_61, wl_62, wl_63, wl_64, wl_65, wl_66, wl_67, wl_68, wl_69, wl_70, wl_71, wl_72, wl_73, wl_74, wl_75, wl_76, wl_77, wl_78, wl_79, wl_80, wl_81, wl_82, wl_83, wl_84, wl_85, wl_86, wl_87, wl_88, wl_89, wl_90, wl_91, wl_92, wl_93, wl_94, wl_95, wl_96, wl_97, wl_98, wl_99, wl_100, wl_101, wl_102, wl_103, wl_104, wl_105, wl_106, wl_107, wl_108, wl_109, wl_110, wl_111, wl_112, wl_113, wl_114, wl_115, wl_116, wl_117, wl_118, wl_119, wl_120, wl_121, wl_122, wl_123, wl_124, wl_125, wl_126, wl_127, wl_128, wl_129, wl_130, wl_159, wl_160, wl_200, wl_232, wl_255, wl_256, wl_300, wl_359, wl_360, wl_400, wl_592, wl_992, wl_999, wl_1000, wl_1024, wl_3456, wl_6512, wl_7104, wl_10000, wl_11264, wl_12345, wl_32767, wl_1000000000, wl_1103515245, wl_2000000000, w_add, w_sub, w_mul, w_neg, w_lt, w_le, w_eq, w_cl, w_in, w_nat, w_max2, w_min2, w_abs2, iltT, iltF, ileT, ileF, ieqT, ieqF, bv_01, bft, bv_0, bv_1, bv_t, bv_f, cond_true, cond_false, Bool.not_true, Bool.not_false, if_true, if_false, true_or, or_true, true_and, and_true, ↓reduceIte, decide_true, decide_false, reduceCtorEq, u2_s, u2_o, u2_k, u2_u2, Bool.true_or, Bool.or_true, Bool.false_or, Bool.or_false, Bool.and_true, Bool.true_and, Bool.and_false, Bool.false_and, eq_self, not_true_eq_false, not_false_eq_true, and_self, and_true, true_and, false_and, and_false, w_dv, dvm, XSH_e hX, y1, s147, s152]
            rw [key, ← y5]
            exact ih (c + 1) (j + 1) _ I2 (by omega) (by omega) (by omega) c6 hf2 (by rw [y5]; exact hb2.1) (by rw [y5]; exact hm2)
          · have c4 : sgB T e (tb j) 59 = false := by
              unfold sgB
              rw [decide_eq_false c3, Bool.and_false]
            rw [c4, cond_false] at s152
            rw [if_neg c3]
            refine ⟨n, tb, j, nx I2 j, tk I2 hf2 j, nx_6 _ _, hj, fe I2 hf2 j, ?_, rfl⟩
            rw [eq_19_11]
            simp (disch := first | assumption | omega | (simp (disch := omega) only [vM_u, vS_u]; first | assumption | omega)) only [hK, hL, hR, hI, hN, sI, hSp, hC, hW, li, lr, ↓cnd_a, ↓cnd_o, ↓cnd_n, ↓cnd_d, ↓z0, ↓z1, ↓z2, y0n, y1i, y2r, y0e, y1e, y2e, wl_0, wl_1, wl_2, wl_3, wl_4, wl_5, wl_6, wl_7, wl_8, wl_9, wl_10, wl_11, wl_12, wl_13, wl_14, wl_15, wl_16, wl_17, wl_18, wl_19, wl_20, wl_21, wl_22, wl_23, wl_24, wl_25, wl_26, wl_27, wl_28, wl_29, wl_30, wl_31, wl_32, wl_33, wl_34, wl_35, wl_36, wl_37, wl_38, wl_39, wl_40, wl_41, wl_42, wl_43, wl_44, wl_45, wl_46, wl_47, wl_48, wl_49, wl_50, wl_51, wl_52, wl_53, wl_54, wl_55, wl_56, wl_57, wl_58, wl_59, wl_60, wl_61, wl_62, wl_63, wl_64, wl_65, wl_66, wl_67, wl_68, wl_69, wl_70, wl_71, wl_72, wl_73, wl_74, wl_75, wl_76, wl_77, wl_78, wl_79, wl_80, wl_81, wl_82, wl_83, wl_84, wl_85, wl_86, wl_87, wl_88, wl_89, wl_90, wl_91, wl_92, wl_93, wl_94, wl_95, wl_96, wl_97, wl_98, wl_99, wl_100, wl_101, wl_102, wl_103, wl_104, wl_105, wl_106, wl_107, wl_108, wl_109, wl_110, wl_111, wl_112, wl_113, wl_114, wl_115, wl_116, wl_117, wl_118, wl_119, wl_120, wl_121, wl_122, wl_123, wl_124, wl_125, wl_126, wl_127, wl_128, wl_129, wl_130, wl_159, wl_160, wl_200, wl_232, wl_255, wl_256, wl_300, wl_359, wl_360, wl_400, wl_592, wl_992, wl_999, wl_1000, wl_1024, wl_3456, wl_6512, wl_7104, wl_10000, wl_11264, wl_12345, wl_32767, wl_1000000000, wl_1103515245, wl_2000000000, w_add, w_sub, w_mul, w_neg, w_lt, w_le, w_eq, w_cl, w_in, w_nat, w_max2, w_min2, w_abs2, iltT, iltF, ileT, ileF, ieqT, ieqF, bv_01, bft, bv_0, bv_1, bv_t, bv_f, cond_true, cond_false, Bool.not_true, Bool.not_false, if_true, if_false, true_or, or_true, true_and, and_true, ↓reduceIte, decide_true, decide_false, reduceCtorEq, u2_s, u2_o, u2_k, u2_u2, Bool.true_or, Bool.or_true, Bool.false_or, Bool.or_false, Bool.and_true, Bool.true_and, Bool.and_false, Bool.false_and, eq_self, not_true_eq_false, not_false_eq_true, and_self, and_true, true_and, false_and, and_false, w_dv, dvm, XSH_e hX, y1, s147, s152]
  have h00 : 0 ≤ (0 : Int) ∧ 0 ≤ n := by omega
  have e0 := TkI_tb hG h00 he.1
  have s147 := sp_149 (d := d + 5) (i := 0) (I := I0) (vn := vn) (vc := vc) (vw := vw) (J := J) hX hG h6 h00
  have ns : nx I0 0 = I0 := nx_self h6
  have t0 := hG.2.2.1
  unfold pFair
  by_cases c : sk T e 0 = e
  · rw [if_pos c]
    have c2 : ¬((0 : Int) < n) := fun x => by have := e0.2.2.2.mpr x; omega
    rw [if_neg c2] at s147
    refine ⟨n, tb, 0, I0, hG, h6, h00, ?_, ?_, v0, hB, fun _ _ _ => rfl⟩
    · rw [← ns]; exact fe I0 FDr_rf 0
    · rw [eq_19]
      simp (disch := first | assumption | omega | (simp (disch := omega) only [vM_u, vS_u]; first | assumption | omega)) only [hK, hL, hR, hI, hN, sI, hSp, hC, hW, li, lr, ↓cnd_a, ↓cnd_o, ↓cnd_n, ↓cnd_d, ↓z0, ↓z1, ↓z2, y0n, y1i, y2r, y0e, y1e, y2e, wl_0, wl_1, wl_2, wl_3, wl_4, wl_5, wl_6, wl_7, wl_8, wl_9, wl_10, wl_11, wl_12, wl_13, wl_14, wl_15, wl_16, wl_17, wl_18, wl_19, wl_20, wl_21, wl_22, wl_23, wl_24, wl_25, wl_26, wl_27, wl_28, wl_29, wl_30, wl_31, wl_32, wl_33, wl_34, wl_35, wl_36, wl_37, wl_38, wl_39, wl_40, wl_41, wl_42, wl_43, wl_44, wl_45, wl_46, wl_47, wl_48, wl_49, wl_50, wl_51, wl_52, wl_53, wl_54, wl_55, wl_56, wl_57, wl_58, wl_59, wl_60, wl_61, wl_62, wl_63, wl_64, wl_65, wl_66, wl_67, wl_68, wl_69, wl_70, wl_71, wl_72, wl_73, wl_74, wl_75, wl_76, wl_77, wl_78, wl_79, wl_80, wl_81, wl_82, wl_83, wl_84, wl_85, wl_86, wl_87, wl_88, wl_89, wl_90, wl_91, wl_92, wl_93, wl_94, wl_95, wl_96, wl_97, wl_98, wl_99, wl_100, wl_101, wl_102, wl_103, wl_104, wl_105, wl_106, wl_107, wl_108, wl_109, wl_110, wl_111, wl_112, wl_113, wl_114, wl_115, wl_116, wl_117, wl_118, wl_119, wl_120, wl_121, wl_122, wl_123, wl_124, wl_125, wl_126, wl_127, wl_128, wl_129, wl_130, wl_159, wl_160, wl_200, wl_232, wl_255, wl_256, wl_300, wl_359, wl_360, wl_400, wl_592, wl_992, wl_999, wl_1000, wl_1024, wl_3456, wl_6512, wl_7104, wl_10000, wl_11264, wl_12345, wl_32767, wl_1000000000, wl_1103515245, wl_2000000000, w_add, w_sub, w_mul, w_neg, w_lt, w_le, w_eq, w_cl, w_in, w_nat, w_max2, w_min2, w_abs2, iltT, iltF, ileT, ileF, ieqT, ieqF, bv_01, bft, bv_0, bv_1, bv_t, bv_f, cond_true, cond_false, Bool.not_true, Bool.not_false, if_true, if_false, true_or, or_true, true_and, and_true, ↓reduceIte, decide_true, decide_false, reduceCtorEq, u2_s, u2_o, u2_k, u2_u2, Bool.true_or, Bool.or_true, Bool.false_or, Bool.or_false, Bool.and_true, Bool.true_and, Bool.and_false, Bool.false_and, eq_self, not_true_eq_false, not_false_eq_true, and_self, and_true, true_and, false_and, and_false, w_dv, dvm, XSH_e hX, x0, s147]
  · rw [if_neg c]
    have c2 : (0 : Int) < n := e0.2.2.2.mp (by omega)
    rw [if_pos c2] at s147
    have key : ev PR (d + 7) 19 [.ref 87, .ref 115] (((vn, vc, vw, K, L, R), I, J) : HS) = atv PR (d + 6) cd_19 11 [.ref 87, .ref 115, .int (w 0)] [] (((vn, vc, vw, K, L, R), nx I0 0, J) : HS) := by
      rw [eq_19, ns]
      simp (disch := first | assumption | omega | (simp (disch := omega) only [vM_u, vS_u]; first | assumption | omega)) only [hK, hL, hR, hI, hN, sI, hSp, hC, hW, li, lr, ↓cnd_a, ↓cnd_o, ↓cnd_n, ↓cnd_d, ↓z0, ↓z1, ↓z2, y0n, y1i, y2r, y0e, y1e, y2e, wl_0, wl_1, wl_2, wl_3, wl_4, wl_5, wl_6, wl_7, wl_8, wl_9, wl_10, wl_11, wl_12, wl_13, wl_14, wl_15, wl_16, wl_17, wl_18, wl_19, wl_20, wl_21, wl_22, wl_23, wl_24, wl_25, wl_26, wl_27, wl_28, wl_29, wl_30, wl_31, wl_32, wl_33, wl_34, wl_35, wl_36, wl_37, wl_38, wl_39, wl_40, wl_41, wl_42, wl_43, wl_44, wl_45, wl_46, wl_47, wl_48, wl_49, wl_50, wl_51, wl_52, wl_53, wl_54, wl_55, wl_56, wl_57, wl_58, wl_59, wl_60, wl_61, wl_62, wl_63, wl_64, wl_65, wl_66, wl_67, wl_68, wl_69, wl_70, wl_71, wl_72, wl_73, wl_74, wl_75, wl_76, wl_77, wl_78, wl_79, wl_80, wl_81, wl_82, wl_83, wl_84, wl_85, wl_86, wl_87, wl_88, wl_89, wl_90, wl_91, wl_92, wl_93, wl_94, wl_95, wl_96, wl_97, wl_98, wl_99, wl_100, wl_101, wl_102, wl_103, wl_104, wl_105, wl_106, wl_107, wl_108, wl_109, wl_110, wl_111, wl_112, wl_113, wl_114, wl_115, wl_116, wl_117, wl_118, wl_119, wl_120, wl_121, wl_122, wl_123, wl_124, wl_125, wl_126, wl_127, wl_128, wl_129, wl_130, wl_159, wl_160, wl_200, wl_232, wl_255, wl_256, wl_300, wl_359, wl_360, wl_400, wl_592, wl_992, wl_999, wl_1000, wl_1024, wl_3456, wl_6512, wl_7104, wl_10000, wl_11264, wl_12345, wl_32767, wl_1000000000, wl_1103515245, wl_2000000000, w_add, w_sub, w_mul, w_neg, w_lt, w_le, w_eq, w_cl, w_in, w_nat, w_max2, w_min2, w_abs2, iltT, iltF, ileT, ileF, ieqT, ieqF, bv_01, bft, bv_0, bv_1, bv_t, bv_f, cond_true, cond_false, Bool.not_true, Bool.not_false, if_true, if_false, true_or, or_true, true_and, and_true, ↓reduceIte, decide_true, decide_false, reduceCtorEq, u2_s, u2_o, u2_k, u2_u2, Bool.true_or, Bool.or_true, Bool.false_or, Bool.or_false, Bool.and_true, Bool.true_and, Bool.and_false, Bool.false_and, eq_self, not_true_eq_false, not_false_eq_true, and_self, and_true, true_and, false_and, and_false, w_dv, dvm, XSH_e hX, x0, s147]
    rw [key, ← v0]
    have g := lp 14 0 0 0 I0 (by omega) (by omega) h00 t0.symm FDr_rf (by rw [v0]; exact hB) (fun z _ _ => by rw [v0])
    rw [v0] at g ⊢
    exact g
end FRY
