/-! a throw keeps the fair sound: whole -/
theorem GD_th {N : Int} {m : Int → Int} {p h X Y sp st : Int} (g : GD N m) (hN : 0 ≤ N ∧ N ≤ 3000) (hp : 0 ≤ p ∧ p < m 5) (hh : 0 ≤ h ∧ h < m 4) (hX : (-1000 ≤ X ∧ X ≤ 1000) ∧ (-1000 ≤ Y ∧ Y ≤ 1000) ∧ (0 ≤ sp ∧ sp ≤ 4) ∧ 0 ≤ st ∧ st ≤ 1000) : GD (N + 1) (thM m p h X Y sp st) ∧ allT (thM m p h X Y sp st) = allT m + 1 ∧ (1 ≤ thM m p h X Y sp st 14 ∧ thM m p h X Y sp st 4 = m 4 ∧ thM m p h X Y sp st 5 = m 5) ∧ lg (thM m p h X Y sp st) 0 5 = thK m p h X Y sp st := by
  obtain ⟨hB, hP, hG, hT, h0⟩ := g
  obtain ⟨h3, h4, h5, h6, h7, h8, h9, h13, h14, hbk, hhp, hpp⟩ := id hB
  have hps := hpp p hp.1 hp.2
  have hpt := hT p hp.1 hp.2
  have k3 : kp m (th3 m p) := kp_th3
  have m13 : th3 m p 13 = m 13 ∧ th3 m p 14 = m 14 := by
    unfold th3 th2 th1
    split
    · exact ⟨by rw [setm_o _ (by omega), setm_o _ (by omega), setm_o _ (by omega)], by rw [setm_o _ (by omega), setm_o _ (by omega), setm_o _ (by omega)]⟩
    · exact ⟨by rw [setm_o _ (by omega), setm_o _ (by omega)], by rw [setm_o _ (by omega), setm_o _ (by omega)]⟩
  have m16 : ∀ z, 112 ≤ z → th3 m p z = m z := fun z hz => by
    unfold th3 th2 th1
    split
    · rw [setm_o _ (by omega), setm_o _ (by omega), setm_o _ (by omega)]
    · rw [setm_o _ (by omega), setm_o _ (by omega)]
  have m0' : th3 m p 0 = m 0 := k3 0 (by omega)
  have dr1 := dv_r (m := th1 m p) (n := 2 * sp + 1) (by omega)
  have dr2 := dv_r (m := th2 m p) (n := 2 * sp + 1) (by omega)
  have xr : -1100 ≤ thX m p X sp ∧ thX m p X sp ≤ 1100 := by unfold thX; omega
  have yr : -1100 ≤ thY m p Y sp ∧ thY m p Y sp ≤ 1100 := by unfold thY; omega
  have hcr := fal_r hB h (thX m p X sp) (thY m p Y sp) st
  have hC : fal m h (thX m p X sp) (thY m p Y sp) st = thC m p h X Y sp st := rfl
  rw [hC] at hcr
  -- what th4 is like
  have four : PL (2000 + (N + 1)) (th4 m p h X Y sp st) ∧ (0 ≤ th4 m p h X Y sp st 13 ∧ th4 m p h X Y sp st 13 ≤ 30) ∧ th4 m p h X Y sp st 14 = m 14 ∧ (∀ z, 232 ≤ z → th4 m p h X Y sp st z = m z) ∧ (∀ z, z < 10 ∨ (16 ≤ z ∧ z < 112) → z ≠ 94 + 3 * p + 2 → th4 m p h X Y sp st z = m z) ∧ (pe (th4 m p h X Y sp st) p 2 = pe m p 2 ∨ pe (th4 m p h X Y sp st) p 2 = pe m p 2 + 1) ∧ (-1 ≤ thK m p h X Y sp st ∧ thK m p h X Y sp st < m 3 ∨ thK m p h X Y sp st = -1) := by
    by_cases c : 0 ≤ thC m p h X Y sp st
    · unfold th4 thK
      rw [if_pos c, if_pos c]
      refine ⟨PL_mono (by omega) (PL_kp hP (by rw [setm_o _ (by omega), setm_o _ (by omega)]; exact k3 4 (by omega)) (by rw [setm_o _ (by omega), setm_o _ (by omega)]; exact m13.1) (fun z hz => by rw [setm_o _ (by omega), setm_o _ (by omega)]; exact m16 z (by omega)) h13.2), by rw [setm_o _ (by omega), setm_o _ (by omega), m13.1]; exact h13, by rw [setm_o _ (by omega), setm_o _ (by omega), m13.2], fun z hz => by rw [setm_o _ (by omega), setm_o _ (by omega)]; exact m16 z (by omega), fun z hz hne => by rw [setm_o _ hne, setm_o _ (by omega)]; exact k3 z (by omega), Or.inr ?_, Or.inr rfl⟩
      exact if_pos (by omega)
    · have hP3 : PL (2000 + N) (th3 m p) := PL_kp hP (k3 4 (by omega)) m13.1 (fun z hz => m16 z (by omega)) h13.2
      have ry : rsY m h (thX m p X sp) (thY m p Y sp) st = thY m p Y sp ∨ rsY m h (thX m p X sp) (thY m p Y sp) st = thY m p Y sp + m 7 := by
        unfold rsY; split
        · exact Or.inr rfl
        · exact Or.inl rfl
      have kL : kp (th3 m p) (thL m p h X Y sp st) := kp_lay (by rw [m13.1]; omega)
      have l13 := lay_13 (m := th3 m p) (h := h) (x := thX m p X sp) (y := rsY m h (thX m p X sp) (thY m p Y sp) st) (a := decide (thC m p h X Y sp st = -2)) (by rw [m13.1]; exact h13)
      have t13 : 1 ≤ thL m p h X Y sp st 13 ∧ thL m p h X Y sp st 13 ≤ 30 := by
        have := l13.1
        unfold thL
        rw [this]
        split <;> omega
      have t14 : thL m p h X Y sp st 14 = m 14 := (l13.2 14 (by omega)).trans m13.2
      have P5 : PL (2000 + N) (thL m p h X Y sp st) := PL_lay hP3 (by rw [m13.1]; exact h13) (by rw [k3 4 (by omega)]; exact hh) (by omega)
      have kK : kp m (knkM (thL m p h X Y sp st) st) := kp_tr k3 (kp_tr kL kp_knk)
      have n13 := knk_13 (m := thL m p h X Y sp st) (st := st) t13
      have kr := knkV_r (m := thL m p h X Y sp st) (by rw [kL 3 (by omega), k3 3 (by omega)]; omega) st
      rw [kL 3 (by omega), k3 3 (by omega)] at kr
      have P6 := PL_knk (st := st) P5 t13
      unfold th4 thK
      rw [if_neg c, if_neg c]
      refine ⟨PL_mono (by omega) P6, by omega, by rw [n13.2.1, t14], fun z hz => ?_, fun z hz _ => kK z (by omega), Or.inl (kK _ (by omega)), by omega⟩
      rw [n13.2.2 z hz]
      exact (l13.2 z (by omega)).trans (m16 z (by omega))
  obtain ⟨P4, b13, b14, bt, bk, bp2, bK⟩ := four
  have l14 := log_14 (m := th4 m p h X Y sp st) (p := p) (h := h) (x := thX m p X sp) (y := thY m p Y sp) (c := thC m p h X Y sp st) (k := thK m p h X Y sp st) (by rw [b14]; exact h14)
  have kl : kp (th4 m p h X Y sp st) (th5 m p h X Y sp st) := kp_log
  have G5 : PLg (th5 m p h X Y sp st) := PLg_log hG h14 b14 ⟨bk 3 (by omega) (by omega), bk 4 (by omega) (by omega), bk 5 (by omega) (by omega)⟩ bt ⟨hp, hh, by omega, by omega, by omega, by omega⟩
  have f5 : ∀ z, z < 10 ∨ (16 ≤ z ∧ z < 112) → z ≠ 94 + 3 * p + 2 → th5 m p h X Y sp st z = m z := fun z a b => by rw [kl z (by omega)]; exact bk z a b
  have P5' : PL (2000 + (N + 1)) (th5 m p h X Y sp st) := PL_kp P4 (kl 4 (by omega)) l14.2.1 l14.2.2 b13.2
  have e14 : th5 m p h X Y sp st 14 = if m 14 = 60 then 60 else m 14 + 1 := by rw [← b14]; exact l14.1
  have e13 : th5 m p h X Y sp st 13 = th4 m p h X Y sp st 13 := l14.2.1
  obtain ⟨M5, hM5⟩ : ∃ M5, M5 = th5 m p h X Y sp st := ⟨_, rfl⟩
  have hp25 : pe M5 p 2 = pe m p 2 ∨ pe M5 p 2 = pe m p 2 + 1 := by
    rw [hM5]
    have : pe (th5 m p h X Y sp st) p 2 = pe (th4 m p h X Y sp st) p 2 := kl _ (by omega)
    rw [this]; exact bp2
  have eM : thM m p h X Y sp st = setm (setm M5 (94 + 3 * p + 1) (pe m p 1 + 1)) (94 + 3 * p) (min 99 (pe m p 0 + 1)) := by rw [hM5]; rfl
  rw [← hM5] at G5 f5 P5' e14 e13
  have o : ∀ z, z ≠ 94 + 3 * p → z ≠ 94 + 3 * p + 1 → thM m p h X Y sp st z = M5 z := fun z a b => by rw [eM, setm_o _ a, setm_o _ b]
  have e1 : pe (thM m p h X Y sp st) p 1 = pe m p 1 + 1 := by
    unfold pe
    rw [eM, setm_o _ (by omega), setm_s]
    rfl
  have e0 : pe (thM m p h X Y sp st) p 0 = min 99 (pe m p 0 + 1) := by
    rw [eM]
    exact if_pos (by omega)
  have e2 : pe (thM m p h X Y sp st) p 2 = pe M5 p 2 := o _ (by omega) (by omega)
  have eo : ∀ q j, q ≠ p → 0 ≤ j → j < 3 → 0 ≤ q → q < m 5 → pe (thM m p h X Y sp st) q j = pe m q j := fun q j a b c a2 b2 => by
    have : pe (thM m p h X Y sp st) q j = pe M5 q j := o _ (by omega) (by omega)
    rw [this]
    exact f5 _ (by omega) (by omega)
  have B5 : BD (thM m p h X Y sp st) := BD_c (fun z a => by rw [o _ (by omega) (by omega)]; exact f5 z (by omega) (by omega)) hB (by rw [o _ (by omega) (by omega), e13]; exact b13) (by rw [o _ (by omega) (by omega), e14]; split <;> omega) (fun q a b => by
    by_cases c : q = p
    · rw [c, e0]; omega
    · rw [eo q 0 c (by omega) (by omega) a b]; exact hpp q a b)
  have t5 : thM m p h X Y sp st 5 = m 5 := by rw [o _ (by omega) (by omega)]; exact f5 5 (by omega) (by omega)
  refine ⟨⟨B5, ?_, ?_, fun q a b => ?_, ?_⟩, ?_, ⟨by rw [o 14 (by omega) (by omega), e14]; split <;> omega, by rw [o 4 (by omega) (by omega)]; exact f5 4 (by omega) (by omega), t5⟩, ?_⟩
  · exact PL_kp P5' (o _ (by omega) (by omega)) (o _ (by omega) (by omega)) (fun z hz => o _ (by omega) (by omega)) (by omega)
  · intro i i1 i2
    have e : ∀ j, 0 ≤ j → lg (thM m p h X Y sp st) i j = lg M5 i j := fun j a => o _ (by omega) (by omega)
    rw [e 0 (by omega), e 1 (by omega), e 2 (by omega), e 3 (by omega), e 4 (by omega), e 5 (by omega), o 3 (by omega) (by omega), o 4 (by omega) (by omega), o 5 (by omega) (by omega)]
    rw [o 14 (by omega) (by omega)] at i2
    exact G5 i i1 i2
  · rw [t5] at b
    by_cases c : q = p
    · subst c
      rw [e1, e2]
      omega
    · rw [eo q 1 c (by omega) (by omega) a b, eo q 2 c (by omega) (by omega) a b]
      have := hT q a b
      omega
  · rw [o 0 (by omega) (by omega), f5 0 (by omega) (by omega)]
    exact h0
  · unfold allT
    rw [t5]
    have s := sm_c (f := fun j => pe (thM m p h X Y sp st) j 1) (g := fun j => if j = p then pe m p 1 + 1 else pe m j 1) (m 5).toNat 0 (fun j a b => by
      by_cases c : j = p
      · rw [c]
        rw [if_pos rfl, e1]
      · rw [if_neg c, eo j 1 c (by omega) (by omega) a (by omega)])
    rw [s, sm_1 (f := fun j => if j = p then pe m p 1 + 1 else pe m j 1) (g := fun j => pe m j 1) (p := p) (by rw [if_pos rfl]) (fun j hj => by rw [if_neg hj]), if_pos (by omega)]
  · show thM m p h X Y sp st 237 = _
    rw [o 237 (by omega) (by omega), hM5]
    try unfold th5
    unfold logF
    exact setm_s _ _ _
