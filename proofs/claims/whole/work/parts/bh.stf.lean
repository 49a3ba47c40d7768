/-! steps: fair -/
def CtB (m : Int → Int) : Prop := (0 ≤ m 3 ∧ m 3 ≤ 10) ∧ (0 ≤ m 4 ∧ m 4 ≤ 8) ∧ 0 ≤ m 5 ∧ m 5 ≤ 6
def Grw (m m' : Int → Int) : Prop := m 3 ≤ m' 3 ∧ m 4 ≤ m' 4 ∧ m 5 ≤ m' 5 ∧ ∀ p j, 0 ≤ p → p < 6 → (j = 1 ∨ j = 2) → pe m' p j = pe m p j
theorem Grw_tr {a b c : Int → Int} (h : Grw a b) (g : Grw b c) : Grw a c := ⟨by have := h.1; have := g.1; omega, by have := h.2.1; have := g.2.1; omega, by have := h.2.2.1; have := g.2.2.1; omega, fun p j x y z => (g.2.2.2 p j x y z).trans (h.2.2.2 p j x y z)⟩
theorem setm_g {m : Int → Int} {z v : Int} (hz : 6 ≤ z ∧ z ≤ 9) (hc : CtB m) : CtB (setm m z v) ∧ Grw m (setm m z v) := by
  have o : ∀ y, y ≠ z → setm m z v y = m y := fun y q => setm_o _ q
  unfold CtB Grw pe at *
  rw [o 3 (by omega), o 4 (by omega), o 5 (by omega)]
  exact ⟨hc, by omega, by omega, by omega, fun p j a b c => o _ (by omega)⟩
theorem addB_g {m : Int → Int} {x y s p v : Int} (hn : m 3 ≠ 10) (hc : CtB m) : CtB (addB m x y s p v) ∧ Grw m (addB m x y s p v) := by
  have h3 := hc.1
  have o : ∀ y', ¬(20 ≤ y' ∧ y' < 70) → y' ≠ 3 → addB m x y s p v y' = m y' := fun y' q r => by
    unfold addB
    rw [setm_o _ (by omega), setm_o _ (by omega), setm_o _ (by omega), setm_o _ (by omega), setm_o _ (by omega), setm_o _ (by omega)]
  have e3 : addB m x y s p v 3 = m 3 + 1 := by
    unfold addB
    rw [setm_o _ (by omega), setm_o _ (by omega), setm_o _ (by omega), setm_o _ (by omega), setm_o _ (by omega)]
    exact if_pos rfl
  unfold CtB Grw pe at *
  rw [e3, o 4 (by omega) (by omega), o 5 (by omega) (by omega)]
  exact ⟨⟨by omega, hc.2⟩, by omega, by omega, by omega, fun p j a b c => o _ (by omega) (by omega)⟩
theorem addH_g {m : Int → Int} {x y v : Int} (hn : m 4 ≠ 8) (hc : CtB m) : CtB (addH m x y v) ∧ Grw m (addH m x y v) := by
  have h4 := hc.2.1
  have o : ∀ y', ¬(70 ≤ y' ∧ y' < 94) → y' ≠ 4 → addH m x y v y' = m y' := fun y' q r => by
    unfold addH
    rw [setm_o _ (by omega), setm_o _ (by omega), setm_o _ (by omega), setm_o _ (by omega)]
  have e4 : addH m x y v 4 = m 4 + 1 := by
    unfold addH
    rw [setm_o _ (by omega), setm_o _ (by omega), setm_o _ (by omega)]
    exact if_pos rfl
  unfold CtB Grw pe at *
  rw [e4, o 3 (by omega) (by omega), o 5 (by omega) (by omega)]
  exact ⟨⟨by omega, by omega, by omega⟩, by omega, by omega, by omega, fun p j a b c => o _ (by omega) (by omega)⟩
theorem addP_g {m : Int → Int} {v : Int} (hn : m 5 ≠ 6) (hc : CtB m) : CtB (addP m v) ∧ Grw m (addP m v) := by
  have h5 := hc.2.2
  have o : ∀ y', y' ≠ 94 + 3 * m 5 + 0 → y' ≠ 5 → addP m v y' = m y' := fun y' q r => by
    unfold addP
    rw [setm_o _ q, setm_o _ r]
  have e5 : addP m v 5 = m 5 + 1 := by
    unfold addP
    rw [setm_o _ (by omega)]
    exact if_pos rfl
  unfold CtB Grw pe at *
  rw [e5, o 3 (by omega) (by omega), o 4 (by omega) (by omega)]
  exact ⟨⟨by omega, by omega, by omega⟩, by omega, by omega, by omega, fun p j a b c => o _ (by omega) (by omega)⟩
theorem pStI_g {T : Int → Int} {e z hi p : Int} {m : Int → Int} {r : Int × (Int → Int)} (hz : 6 ≤ z ∧ z ≤ 9) (hc : CtB m) (h : pStI T e m z hi p = .ok r) : CtB r.2 ∧ Grw m r.2 := by
  unfold pStI at h
  cases c : pFig T e 0 hi p with
  | error f => rw [c] at h; exact nomatch h
  | ok a =>
    rw [c] at h
    injection h with h
    subst h
    exact setm_g hz hc
theorem pLn_g {T : Int → Int} {e p : Int} {m : Int → Int} {r : Int × (Int → Int)} (hc : CtB m) (h : pLn T e m p = .ok r) : CtB r.2 ∧ Grw m r.2 := by
  unfold pLn at h
  dsimp only at h
  cases b0 : hasB T e (sk T e p) W_block with
  | true =>
    rw [b0, if_pos rfl] at h
    by_cases c : m 3 = 10
    · rw [if_pos c] at h; exact nomatch h
    · rw [if_neg c] at h
      cases c1 : pBlk T e (lw T e (sk T e p)) with
      | error f => rw [c1] at h; exact nomatch h
      | ok a =>
        rw [c1] at h
        injection h with h
        subst h
        exact addB_g c hc
  | false =>
  rw [b0, if_neg (by decide)] at h
  cases b1 : hasB T e (sk T e p) W_hoop with
  | true =>
    rw [b1, if_pos rfl] at h
    by_cases c : m 4 = 8
    · rw [if_pos c] at h; exact nomatch h
    · rw [if_neg c] at h
      cases c1 : pHop T e (lw T e (sk T e p)) with
      | error f => rw [c1] at h; exact nomatch h
      | ok a =>
        rw [c1] at h
        injection h with h
        subst h
        exact addH_g c hc
  | false =>
  rw [b1, if_neg (by decide)] at h
  cases b2 : hasB T e (sk T e p) W_person with
  | true =>
    rw [b2, if_pos rfl] at h
    by_cases c : m 5 = 6
    · rw [if_pos c] at h; exact nomatch h
    · rw [if_neg c] at h
      cases c1 : pFig T e 0 99 (lw T e (sk T e p)) with
      | error f => rw [c1] at h; exact nomatch h
      | ok a =>
        rw [c1] at h
        injection h with h
        subst h
        exact addP_g c hc
  | false =>
  rw [b2, if_neg (by decide)] at h
  (repeat' split at h) <;> first | exact pStI_g (by omega) hc h | exact nomatch h
theorem fairN_g {T : Int → Int} {e : Int} : ∀ (n : Nat) {p : Int} {m m' : Int → Int}, CtB m → fairN T e n m p = .ok m' → Grw m m'
  | 0, _, _, _, _, h => nomatch h
  | n + 1, p, m, m', hc, h => by
    unfold fairN at h
    cases c : pLn T e m p with
    | error f => rw [c] at h; exact nomatch h
    | ok r =>
      have g := pLn_g hc c
      rw [c] at h
      dsimp only at h
      split at h
      · injection h with h
        rw [← h]
        exact g.2
      · split at h
        · exact Grw_tr g.2 (fairN_g n g.1 h)
        · exact nomatch h
theorem pFair_g {T : Int → Int} {e : Int} {m m' : Int → Int} (hc : CtB m) (h : pFair T e m = .ok m') : Grw m m' := by
  unfold pFair at h
  split at h
  · injection h with h
    rw [← h]
    exact ⟨by omega, by omega, by omega, fun _ _ _ _ _ => rfl⟩
  · exact fairN_g _ hc h
/-- what a fair's text keeps -/
theorem GD_fr {N : Int} {m m' M : Int → Int} (g : GD N m) (hN : 0 ≤ N) (hg : Grw m m') (hMe : M = setm m' 0 (m 0 + 1)) (hB : BD M) (hs : ∀ z, z ≠ 0 → ¬(3 ≤ z ∧ z ≤ 9) → ¬(20 ≤ z ∧ z < 112) → M z = m z) (hz : ∀ p j, m 5 ≤ p → p < 6 → (j = 1 ∨ j = 2) → pe m p j = 0) (h0 : m 0 ≠ 12) : GD N M ∧ allT M = allT m := by
  obtain ⟨hb, hP, hG, hT, h0'⟩ := g
  obtain ⟨g3, g4, g5, g6⟩ := hg
  have o : ∀ z, z ≠ 0 → M z = m' z := fun z q => by rw [hMe]; exact setm_o _ q
  have e0 : M 0 = m 0 + 1 := by rw [hMe]; exact if_pos rfl
  have e13 : M 13 = m 13 := hs _ (by omega) (by omega) (by omega)
  have e14 : M 14 = m 14 := hs _ (by omega) (by omega) (by omega)
  have e3 : M 3 = m' 3 := o _ (by omega)
  have e4 : M 4 = m' 4 := o _ (by omega)
  have e5 : M 5 = m' 5 := o _ (by omega)
  have b5 := hb.2.2.1
  have b5' := hB.2.2.1
  have ep : ∀ p j, 0 ≤ p → p < 6 → (j = 1 ∨ j = 2) → pe M p j = pe m p j := fun p j a b c => by
    rw [← g6 p j a b c]
    exact o _ (by omega)
  refine ⟨⟨hB, fun k a b => ?_, fun k a b => ?_, fun p a b => ?_, by omega, by omega⟩, ?_⟩
  · rw [e13] at b
    have h := hP k a b
    have el : ∀ j, 0 ≤ j → j < 4 → ly M k j = ly m k j := fun j x y => hs _ (by omega) (by omega) (by omega)
    rw [el 0 (by omega) (by omega), el 1 (by omega) (by omega), el 2 (by omega) (by omega), el 3 (by omega) (by omega), e4]
    omega
  · rw [e14] at b
    have h := hG k a b
    have el : ∀ j, 0 ≤ j → j < 6 → lg M k j = lg m k j := fun j x y => hs _ (by omega) (by omega) (by omega)
    rw [el 0 (by omega) (by omega), el 1 (by omega) (by omega), el 2 (by omega) (by omega), el 3 (by omega) (by omega), el 4 (by omega) (by omega), el 5 (by omega) (by omega), e3, e4, e5]
    omega
  · rw [ep p 1 a (by omega) (by omega), ep p 2 a (by omega) (by omega)]
    by_cases c : p < m 5
    · exact hT p a c
    · rw [hz p 1 (by omega) (by omega) (by omega), hz p 2 (by omega) (by omega) (by omega)]
      omega
  · unfold allT
    obtain ⟨n, hn⟩ : ∃ n : Nat, n = (m 5).toNat := ⟨_, rfl⟩
    obtain ⟨n2, hn2⟩ : ∃ n2 : Nat, n2 = (M 5 - m 5).toNat := ⟨_, rfl⟩
    rw [show (M 5).toNat = n + n2 by omega, sm_add, ← hn, sm_0 n2 _ (fun j a b => (ep j 1 (by omega) (by omega) (by omega)).trans (hz j 1 (by omega) (by omega) (by omega))), Int.add_zero]
    exact sm_c n 0 (fun j a b => ep j 1 a (by omega) (by omega))
section STF
variable {vn vc vw : Nat} {K L : Nat → Nat} {R : Nat → Nat → Nat} {I : Nat → Nat → Int32} {J : Nat → Nat → Int64}
variable {S : Nat → Int32} {ls : Nat}
def gFair (g : Gho) (m' : Int → Int) (f n : Int) : Gho := ((m', gss g, gln g), (gT g, 0, f), (n, gPs g), g.2.2.2)
theorem IVg_r {N N' : Int} {g : Gho} {m' : Int → Int} {f n : Int} (x : IVg N g) (h : N ≤ N') (hG : GD N' m') (hf : -1 ≤ f ∧ f ≤ 400) (hn : n = 0 ∨ n = gn g) : IVg N' (gFair g m' f n) := by
  obtain ⟨x1, x2, x3, x4, x5⟩ := IVg_mono h x
  refine ⟨hG, fun j a b => ?_, x3, x4, hf⟩
  have b' : j < n := b
  exact x2 j a (by omega)
theorem IVc_q {R' : Nat → Nat → Nat} {I' : Nat → Nat → Int32} {N : Int} {g : Gho} {mk nx f n : Int} {m' : Int → Int} (x : IVc K L R I N g mk nx) (hf : Frs vn K) (hr : RQ R R') (h10 : ∀ a, a ≠ 115 → R' a 10 = R a 10) (hi : ∀ a k, ¬(84 ≤ a ∧ a ≤ 86) → a ≠ 82 → (a = 79 → k ≠ 12) → ¬(115 ≤ a ∧ a ≤ 125) → ¬(91 ≤ a ∧ a ≤ 101) → (a = 127 → k ≠ 2) → I' a k = I a k) (hv : vS I' 91 = m') (hB : BD m') (hW1 : Wd I' 91) (h115 : Wd I' 115) (h12 : I' 79 12 = w f) (h82 : I' 82 1 = w 0) (h127 : I' 127 2 = w n) (hn : n = 0 ∨ n = gn g) : IVc K L R' I' N (gFair g m' f n) mk nx := by
  obtain ⟨x1, x2, x3, x4, x5, x6, ⟨x7, x8⟩, ⟨x9, y1⟩, y2, y3, y4⟩ := x
  obtain ⟨z1, z2, z3, z4, z5, z6, ⟨ss', ln', z7⟩, z8⟩ := x1
  have k79 : K 79 = 11 := (XSH_e z1).1
  have hr' : ∀ a, a < vn → (a < 82 ∨ 305 ≤ a) → R' a 1 = R a 1 := fun a _ q => hr a 1 (by omega)
  have hiL : ∀ a k, a < vn → (a < 82 ∨ 305 ≤ a) → K a = 3 ∨ K a = 20 → I' a k = I a k := fun a k q1 q2 q3 => hi a k (by omega) (by omega) (fun e => by rw [e, k79] at q3; omega) (by omega) (by omega) (by omega)
  have hO : OddsI I' mk := by
    obtain ⟨u1, u2', u3⟩ := z8
    exact ⟨by rw [hi _ _ (by omega) (by omega) (by omega) (by omega) (by omega) (by omega)]; exact u1, u2', fun c hc => by rw [hi _ _ (by omega) (by omega) (by omega) (by omega) (by omega) (by omega)]; exact u3 c hc⟩
  have hA : AimOK K L R' I' ss' ln' := by
    obtain ⟨p1, p2, p3⟩ := z7
    refine ⟨by rw [hr _ _ (by omega)]; exact (ALaw_n p1 hf (fun _ _ => ⟨rfl, rfl⟩) hr' hiL).1, ?_, fun q => ?_⟩
    · rw [hi _ _ (by omega) (by omega) (by omega) (by omega) (by omega) (by omega)]; exact p2
    · have e274 : (fun n => I' 274 (ix n)) = fun n => I 274 (ix n) := by
        funext n
        exact hi _ _ (by omega) (by omega) (by omega) (by omega) (by omega) (by omega)
      rw [e274]
      intro k k1 k2
      rw [hi _ _ (by omega) (by omega) (by omega) (by omega) (by omega) (by omega)]
      exact p3 (by rw [← hi 273 5 (by omega) (by omega) (by omega) (by omega) (by omega) (by omega)]; exact q) k k1 k2
  have hvS : ∀ q, 103 ≤ q → q + 10 < 273 → (q + 10 < 115 ∨ 127 < q) → vS I' q = vS I q := fun q q1 q2 q3 => vS_f' (fun a k u1 u2 u3 => hi _ _ (by omega) (by omega) (by omega) (by omega) (by omega) (by omega))
  have hWd : ∀ q, 103 ≤ q → q + 10 < 273 → (q + 10 < 115 ∨ 127 < q) → Wd I q → Wd I' q := fun q q1 q2 q3 u => Wd_f' (fun a q => hi _ _ (by omega) (by omega) (by omega) (by omega) (by omega) (by omega)) u
  obtain ⟨p1, p2, p3, p4⟩ := x6
  have hnb : 0 ≤ n ∧ n ≤ 12 := by omega
  refine ⟨⟨XSH_r hr z1, SHq_r hr z2, hW1, hv, hB, ?_, ⟨ss', ln', hA⟩, hO⟩, x2, SWA_f (fun a k q => hi _ _ (by omega) (by omega) (by omega) (by omega) (by omega) (by omega)) x3, Tp_0 h82, h12, ⟨?_, ⟨h127, hnb⟩, fun i q => ?_, fun j a b => ?_⟩, ⟨SHq_r hr x7, hWd 103 (by omega) (by omega) (by omega) x8⟩, ⟨SHq_r hr x9, h115⟩, ?_, fun q => ?_, y4⟩
  · rw [h10 _ (by omega)]; exact (ALaw_n z6 hf (fun _ _ => ⟨rfl, rfl⟩) hr' hiL).1
  · rw [hi _ _ (by omega) (by omega) (by omega) (by omega) (by omega) (by omega)]; exact p1
  · obtain ⟨q1, q2, q3⟩ := p3 i q
    have e128 : R' 128 i = R 128 i := by
      by_cases c : i = 10
      · rw [c]; exact h10 _ (by omega)
      · exact hr _ _ (by omega)
    exact ⟨by rw [e128]; exact q1, SHq_r hr q2, hWd _ (by omega) (by omega) (by omega) q3⟩
  · have b' : j < n := b
    rcases hn with e | e
    · omega
    · obtain ⟨q1, q2⟩ := p4 j a (by omega)
      have e1 : 129 ≤ slN nx j ∧ slN nx j + 12 ≤ 273 := by unfold slN; omega
      exact ⟨(hvS _ (by omega) (by omega) (by omega)).trans q1, by rw [h10 _ (by omega), h10 _ (by omega)]; exact q2⟩
  · rw [hi _ _ (by omega) (by omega) (by omega) (by omega) (by omega) (by omega)]; exact y2
  · obtain ⟨q1, q2⟩ := y3 q
    exact ⟨(hvS 103 (by omega) (by omega) (by omega)).trans q1, by rw [h10 _ (by omega)]; exact (ALaw_n q2 hf (fun _ _ => ⟨rfl, rfl⟩) hr' hiL).1⟩
theorem IVm_q {I' : Nat → Nat → Int32} {g : Gho} {m' : Int → Int} {f n : Int} (x : IVm K L R I g) (hF : FRr I I') (hv : vM I' = m') (hB : BD m') (hA : allT m' = allT (gm g)) (h12 : I' 287 12 = w f) (h8 : I' 287 8 = w 0) (hn : n = 0 ∧ I' 287 6 = w 0 ∨ n = gn g ∧ I' 287 6 = I 287 6) : IVm K L R I' (gFair g m' f n) := by
  obtain ⟨⟨z1, z2, z3, z4, z5, z6⟩, x2, x3, x4, x5, x6, x7⟩ := x
  have e12 : mI I' 12 = mI I 12 := by
    unfold mI
    rw [hF _ _ (by omega) (by unfold ix; omega) (by omega)]
  refine ⟨⟨z1, SWA_f (fun a k q => hF a k (by omega) (by omega) (by omega)) z2, RLaw_f (fun k q => hF _ _ (by omega) (by omega) (by omega)) z3, hv, hB, by rw [hF _ _ (by omega) (by omega) (by omega)]; exact z6⟩, (e12.trans x2).trans hA.symm, TpR_0 h8, h12, ?_, by rw [hF _ _ (by omega) (by omega) (by omega)]; exact x6, fun q => ?_⟩
  · rcases hn with ⟨e1, e2⟩ | ⟨e1, e2⟩
    · rw [e1]
      exact PM_0 e2
    · rw [e1]
      exact PM_f ⟨fun k => hF _ _ (by omega) (by omega) (by omega), hF _ _ (by omega) (by omega) (by omega), hF _ _ (by omega) (by omega) (by omega), e2⟩ x5
  · obtain ⟨q1, q2, q3⟩ := x7 q
    have ek : ∀ k, keptI I' 288 k = keptI I 288 k := fun k => by
      show I' 289 k = I 289 k
      exact hF _ _ (by omega) (by omega) (by omega)
    refine ⟨by rw [vM_f ek]; exact q1, ?_, RLaw_f (fun k _ => ek k) q3⟩
    show mI (keptI I') 12 = allT (gkm g)
    rw [← q2]
    unfold mI
    rw [ek]
theorem FaB_F {I I' : Nat → Nat → Int32} (h : FaB I I') : FRr I I' ∧ I' 287 6 = I 287 6 := by
  obtain ⟨h1, h2⟩ := h
  refine ⟨fun a k q1 q2 q3 => ?_, h2 _ _ (by omega) (by omega) (by omega)⟩
  by_cases c : a = 288
  · rw [c]; exact h1 k
  · exact h2 a k q1 c (by omega)
theorem st_339 {d : Nat} {N : Int} {s : HS} (z : INV S ls N s) (hN : 0 ≤ N ∧ N ≤ 1000) : StW S ls N s (ev PR (d + 40) 339 [.ref 79, .ref 304]) (ev PR (d + 40) 249 [.ref 287]) := by
  obtain ⟨vn, vc, vw, K, L, R, I, J, g, mk, nx, rfl, xg, xc, xm, xs⟩ := z
  have gj := xc.2.2.2.2.2.2.2.2.2.2
  obtain ⟨k1, k2⟩ := gj
  obtain ⟨z1', z2', z3, z4, z5, z6, z7⟩ := id xc.1
  have hX := z1'
  have hS := z2'
  have hTp := xc.2.2.2.1
  have hTr := xm.2.2.1
  have hA := xc.2.2.1
  have hv := xs.1.1
  have hf := xs.1.2.2.2.2
  have h0 : 0 ≤ gm g 0 ∧ gm g 0 ≤ 12 := ⟨xg.1.2.2.2.2.1, xg.1.2.2.2.2.2⟩
  have v4 : vM I = gm g := xm.1.2.2.2.1
  have h115 := xc.2.2.2.2.2.2.2.1
  obtain ⟨p1, p2, p3⟩ := sp_160 (d := d + 30) (vn := vn) (vc := vc) (vw := vw) (J := J) hX hS h115.1 hTp hA z3 h115.2 (by rw [z4]; exact z5) (by rw [z4]; exact h0)
  rw [z4] at p1 p2 p3
  have nb : ∀ (b : Bool) (I1 : Nat → Nat → Int32), FCf b I I1 → ∀ a k, ¬(84 ≤ a ∧ a ≤ 86) → a ≠ 82 → (a = 79 → k ≠ 12) → ¬(115 ≤ a ∧ a ≤ 125) → ¬(91 ≤ a ∧ a ≤ 101) → (a = 127 → k ≠ 2) → I1 a k = I a k := fun b I1 h a k q1 q2 q3 q4 q5 q6 => h a k q1 (by omega) q3 q4 (fun _ => ⟨fun q => absurd q q5, q6⟩)
  have nc : ∀ (vc vw : Nat) (J : Nat → Nat → Int64) (R1 : Nat → Nat → Nat) (I1 : Nat → Nat → Int32), RQ R R1 → (∀ a k, ¬(84 ≤ a ∧ a ≤ 86) → a ≠ 82 → (a = 79 → k ≠ 12) → ¬(115 ≤ a ∧ a ≤ 125) → ¬(91 ≤ a ∧ a ≤ 101) → (a = 127 → k ≠ 2) → I1 a k = I a k) → IVm K L R1 I1 g := fun vc vw J R1 I1 hr h => IVm_cls (fun a k q => h a k (by omega) (by omega) (by omega) (by omega) (by omega) (by omega)) (fun a k q => hr a k (by omega)) xm
  have cI : ∀ (R1 : Nat → Nat → Nat) (I1 : Nat → Nat → Int32), IVm K L R1 I1 g → CntI I1 := fun R1 I1 m1 => by
    obtain ⟨n3, n4, n5, n13, n14⟩ := BD_mI (I := I1) (by rw [m1.1.2.2.2.1]; exact z5)
    exact ⟨n3, n4, n5⟩
  have rf := fun (vc vw : Nat) (J : Nat → Nat → Int64) (R1 : Nat → Nat → Nat) (I1 : Nat → Nat → Int32) (m1 : IVm K L R1 I1 g) => sp_249 (d := d + 29) (vn := vn) (vc := vc) (vw := vw) (J := J) m1.1.1 m1.1.2.1 m1.2.2.1 (cI R1 I1 m1) (by rw [m1.1.2.2.2.1]; exact h0)
  cases hp : pFair (gT g) (ge g) (gm g) with
  | error f =>
    obtain ⟨I1, R1, e1, a1, a2, a3, a4, a5, a6⟩ := p1 f hp
    have hi := nb false I1 a3
    have m1 := nc 0 0 J R1 I1 a5 hi
    obtain ⟨q1, q2, q3⟩ := rf (vc + 1) (vw + 6) J R1 I1 m1
    rw [m1.1.2.2.2.1] at q1
    obtain ⟨I2, e2, b1, b2, b3, b4, b5⟩ := q1 f hp
    obtain ⟨bF, b6⟩ := FaB_F b5
    have hv91 : vS I1 91 = gm g := by
      rw [← z4]
      exact vS_f' (fun a k u1 u2 u3 => a3 _ _ (by omega) (by omega) (by omega) (by omega) (fun q => nomatch q))
    have hw91 : Wd I1 91 := Wd_f' (fun a q => a3 _ _ (by omega) (by omega) (by omega) (by omega) (fun q => nomatch q)) z3
    have c1 := IVc_q (f := f) (n := gn g) (m' := gm g) xc hf a5 a6 hi hv91 z5 hw91 a4 a1 a2 (by rw [a3 _ _ (by omega) (by omega) (by omega) (by omega) (fun q => nomatch q)]; exact xc.2.2.2.2.2.1.2.1.1) (Or.inr rfl)
    have c2 := IVc_f (I' := I2) (fun a k q => bF a k (by omega) (by omega) (by omega)) c1
    have m2 := IVm_q (n := gn g) (m' := gm g) m1 bF (by rw [vM_f b5.1]; exact m1.1.2.2.2.1) z5 rfl b2 b4 (Or.inr ⟨rfl, b6⟩)
    have h78 : ∀ k, I1 78 k = I 78 k := fun k => hi _ _ (by omega) (by omega) (by omega) (by omega) (by omega) (by omega)
    refine ⟨w 1, _, _, _, ?_, ⟨xs.2.1, xs.2.2.1, fun k => (h78 k).trans (xs.2.2.2 k), (XSH_e hX).1, (MSH_e xm.1.1).1, k1, k2⟩, e2, b1, fun q => absurd q (by decide), ⟨vn, vc + 1, vw + 6, K, L, R1, I2, J, _, mk, nx, rfl, IVg_r xg (by omega) (GD_mono (by omega) xg.1) (by omega) (Or.inr rfl), IVc_mono (by omega) c2, m2, IVs_mono xs ⟨rfl, by omega, by omega⟩ (fun k => by rw [bF _ _ (by omega) (by omega) (by omega), h78])⟩⟩
    rw [eq_339]
    simp (disch := first | assumption | omega | (simp (disch := omega) only [vM_u, vS_u]; first | assumption | omega)) only [hK, hL, hR, hI, hN, sI, hSp, hC, hW, li, lr, ↓cnd_a, ↓cnd_o, ↓cnd_n, ↓cnd_d, ↓z0, ↓z1, ↓z2, y0n, y1i, y2r, y0e, y1e, y2e, wl_0, wl_1, wl_2, wl_3, wl_4, wl_5, wl_6, wl_7, wl_8, wl_9, wl_10, wl_11, wl_12, wl_13, wl_14, wl_15, wl_16, wl_17, wl_18, wl_19, wl_20, wl_21, wl_22, wl_23, wl_24, wl_25, wl_26, wl_27, wl_28, wl_29, wl_30, wl_31, wl_32, wl_33, wl_34, wl_35, wl_36, wl_37, wl_38, wl_39, wl_40, wl_41, wl_42, wl_43, wl_44, wl_45, wl_46, wl_47, wl_48, wl_49, wl_50, wl_51, wl_52, wl_53, wl_54, wl_55, wl_56, wl_57, wl_58, wl_59, wl_60, wl_61, wl_62, wl_63, wl_64, wl_65, wl_66, wl_67, wl_68, wl_69, wl_70, wl_71, wl_72, wl_73, wl_74, wl_75, wl_76, wl_77, wl_78, wl_79, wl_80, wl_81, wl_82, wl_83, wl_84, wl_85, wl_86, wl_87, wl_88, wl_89, wl_90, wl_91, wl_92, wl_93, wl_94, wl_95, wl_96, wl_97, wl_98, wl_99, wl_100, wl_101, wl_102, wl_103, wl_104, wl_105, wl_106, wl_107, wl_108, wl_109, wl_110, wl_111, wl_112, wl_113, wl_114, wl_115, wl_116, wl_117, wl_118, wl_119, wl_120, wl_121, wl_122, wl_123, wl_124, wl_125, wl_126, wl_127, wl_128, wl_129, wl_130, wl_159, wl_160, wl_200, wl_232, wl_255, wl_256, wl_300, wl_359, wl_360, wl_400, wl_592, wl_992, wl_999, wl_1000, wl_1024, wl_3456, wl_6512, wl_7104, wl_10000, wl_11264, wl_12345, wl_32767, wl_1000000000, wl_1103515245, wl_2000000000, w_add, w_sub, w_mul, w_neg, w_lt, w_le, w_eq, w_cl, w_in, w_nat, w_max2, w_min2, w_abs2, iltT, iltF, ileT, ileF, ieqT, ieqF, bv_01, bft, bv_0, bv_1, bv_t, bv_f, cond_true, cond_false, Bool.not_true, Bool.not_false, if_true, if_false, true_or, or_true, true_and, and_true, ↓reduceIte, decide_true, decide_false, reduceCtorEq, u2_s, u2_o, u2_k, u2_u2, Bool.true_or, Bool.or_true, Bool.false_or, Bool.or_false, Bool.and_true, Bool.true_and, Bool.and_false, Bool.false_and, eq_self, not_true_eq_false, not_false_eq_true, and_self, and_true, true_and, false_and, and_false, w_dv, dvm, XSH_e hX, e1]
    all_goals rfl
  | ok m' =>
    by_cases c12 : gm g 0 = 12
    · obtain ⟨I1, R1, e1, a1, a2, a3, a4, a5, a6⟩ := p2 m' hp c12
      have hi := nb false I1 a3
      have m1 := nc 0 0 J R1 I1 a5 hi
      obtain ⟨q1, q2, q3⟩ := rf (vc + 1) (vw + 6) J R1 I1 m1
      rw [m1.1.2.2.2.1] at q2
      obtain ⟨I2, e2, b1, b2, b4, b5⟩ := q2 m' hp c12
      obtain ⟨bF, b6⟩ := FaB_F b5
      have hv91 : vS I1 91 = gm g := by
        rw [← z4]
        exact vS_f' (fun a k u1 u2 u3 => a3 _ _ (by omega) (by omega) (by omega) (by omega) (fun q => nomatch q))
      have hw91 : Wd I1 91 := Wd_f' (fun a q => a3 _ _ (by omega) (by omega) (by omega) (by omega) (fun q => nomatch q)) z3
      have c1 := IVc_q (f := -1) (n := gn g) (m' := gm g) xc hf a5 a6 hi hv91 z5 hw91 a4 a1 a2 (by rw [a3 _ _ (by omega) (by omega) (by omega) (by omega) (fun q => nomatch q)]; exact xc.2.2.2.2.2.1.2.1.1) (Or.inr rfl)
      have c2 := IVc_f (I' := I2) (fun a k q => bF a k (by omega) (by omega) (by omega)) c1
      have m2 := IVm_q (n := gn g) (m' := gm g) m1 bF (by rw [vM_f b5.1]; exact m1.1.2.2.2.1) z5 rfl b2 b4 (Or.inr ⟨rfl, b6⟩)
      have h78 : ∀ k, I1 78 k = I 78 k := fun k => hi _ _ (by omega) (by omega) (by omega) (by omega) (by omega) (by omega)
      refine ⟨w 2, _, _, _, ?_, ⟨xs.2.1, xs.2.2.1, fun k => (h78 k).trans (xs.2.2.2 k), (XSH_e hX).1, (MSH_e xm.1.1).1, k1, k2⟩, e2, b1, fun q => absurd q (by decide), ⟨vn, vc + 1, vw + 6, K, L, R1, I2, J, _, mk, nx, rfl, IVg_r xg (by omega) (GD_mono (by omega) xg.1) (by omega) (Or.inr rfl), IVc_mono (by omega) c2, m2, IVs_mono xs ⟨rfl, by omega, by omega⟩ (fun k => by rw [bF _ _ (by omega) (by omega) (by omega), h78])⟩⟩
      rw [eq_339]
      simp (disch := first | assumption | omega | (simp (disch := omega) only [vM_u, vS_u]; first | assumption | omega)) only [hK, hL, hR, hI, hN, sI, hSp, hC, hW, li, lr, ↓cnd_a, ↓cnd_o, ↓cnd_n, ↓cnd_d, ↓z0, ↓z1, ↓z2, y0n, y1i, y2r, y0e, y1e, y2e, wl_0, wl_1, wl_2, wl_3, wl_4, wl_5, wl_6, wl_7, wl_8, wl_9, wl_10, wl_11, wl_12, wl_13, wl_14, wl_15, wl_16, wl_17, wl_18, wl_19, wl_20, wl_21, wl_22, wl_23, wl_24, wl_25, wl_26, wl_27, wl_28, wl_29, wl_30, wl_31, wl_32, wl_33, wl_34, wl_35, wl_36, wl_37, wl_38, wl_39, wl_40, wl_41, wl_42, wl_43, wl_44, wl_45, wl_46, wl_47, wl_48, wl_49, wl_50, wl_51, wl_52, wl_53, wl_54, wl_55, wl_56, wl_57, wl_58, wl_59, wl_60, wl_61, wl_62, wl_63, wl_64, wl_65, wl_66, wl_67, wl_68, wl_69, wl_70, wl_71, wl_72, wl_73, wl_74, wl_75, wl_76, wl_77, wl_78, wl_79, wl_80, wl_81, wl_82, wl_83, wl_84, wl_85, wl_86, wl_87, wl_88, wl_89, wl_90, wl_91, wl_92, wl_93, wl_94, wl_95, wl_96, wl_97, wl_98, wl_99, wl_100, wl_101, wl_102, wl_103, wl_104, wl_105, wl_106, wl_107, wl_108, wl_109, wl_110, wl_111, wl_112, wl_113, wl_114, wl_115, wl_116, wl_117, wl_118, wl_119, wl_120, wl_121, wl_122, wl_123, wl_124, wl_125, wl_126, wl_127, wl_128, wl_129, wl_130, wl_159, wl_160, wl_200, wl_232, wl_255, wl_256, wl_300, wl_359, wl_360, wl_400, wl_592, wl_992, wl_999, wl_1000, wl_1024, wl_3456, wl_6512, wl_7104, wl_10000, wl_11264, wl_12345, wl_32767, wl_1000000000, wl_1103515245, wl_2000000000, w_add, w_sub, w_mul, w_neg, w_lt, w_le, w_eq, w_cl, w_in, w_nat, w_max2, w_min2, w_abs2, iltT, iltF, ileT, ileF, ieqT, ieqF, bv_01, bft, bv_0, bv_1, bv_t, bv_f, cond_true, cond_false, Bool.not_true, Bool.not_false, if_true, if_false, true_or, or_true, true_and, and_true, ↓reduceIte, decide_true, decide_false, reduceCtorEq, u2_s, u2_o, u2_k, u2_u2, Bool.true_or, Bool.or_true, Bool.false_or, Bool.or_false, Bool.and_true, Bool.true_and, Bool.and_false, Bool.false_and, eq_self, not_true_eq_false, not_false_eq_true, and_self, and_true, true_and, false_and, and_false, w_dv, dvm, XSH_e hX, e1]
      all_goals rfl
    · obtain ⟨I1, R1, e1, a1, a2, a3, a4, a5, a6, a7, a8, a9, a10, a11⟩ := p3 m' hp c12
      rw [a4] at a5 a6
      have hi := nb true I1 a7
      have m1 := nc 0 0 J R1 I1 a10 hi
      obtain ⟨q1, q2, q3⟩ := rf vc vw (u2 J 304 0 (w (gm g 0 + 1)).toInt64) R1 I1 m1
      rw [m1.1.2.2.2.1] at q3
      obtain ⟨I2, e2, b1, b2, b3, b4, b5, b6, bF⟩ := q3 m' hp c12
      have hz : ∀ p j, gm g 5 ≤ p → p < 6 → (j = 1 ∨ j = 2) → pe (gm g) p j = 0 := fun p j q r t => by
        rw [← v4] at q ⊢
        have n5 := cI R I xm
        have b5' : 0 ≤ vM I 5 := by rw [v4]; exact z5.2.2.1.1
        rw [vM_s (by omega)] at q b5'
        unfold pe vM
        exact if_neg (by unfold CntI at n5; omega)
      have gf := GD_fr (M := setm m' 0 (gm g 0 + 1)) xg.1 hN.1 (pFair_g ⟨z5.1, z5.2.1, z5.2.2.1⟩ hp) rfl a5 a6 hz c12
      have c1 := IVc_q (f := -1) (n := 0) (m' := setm m' 0 (gm g 0 + 1)) xc hf a10 a11 hi a4 a5 a8 a9 a1 a2 a3 (Or.inl rfl)
      have c2 := IVc_f (I' := I2) (fun a k q => bF a k (by omega) (by omega) (by omega)) c1
      have m2 := IVm_q (n := 0) (m' := setm m' 0 (gm g 0 + 1)) m1 bF b5 a5 gf.2 b2 b3 (Or.inl ⟨rfl, b4⟩)
      have h78 : ∀ k, I1 78 k = I 78 k := fun k => hi _ _ (by omega) (by omega) (by omega) (by omega) (by omega) (by omega)
      refine ⟨w 0, w (gm g 0 + 1), _, _, ?_, ⟨xs.2.1, xs.2.2.1, fun k => (h78 k).trans (xs.2.2.2 k), (XSH_e hX).1, (MSH_e xm.1.1).1, k1, k2⟩, e2, b1, fun _ => (by show u2 J 304 0 _ 304 0 = _; exact u2_s _ _ _ _), ⟨vn, vc, vw, K, L, R1, I2, _, _, mk, nx, rfl, IVg_r xg (by omega) (GD_mono (by omega) gf.1) (by omega) (Or.inl rfl), IVc_mono (by omega) c2, m2, IVs_mono xs ⟨rfl, by omega, by omega⟩ (fun k => by rw [bF _ _ (by omega) (by omega) (by omega), h78])⟩⟩
      rw [eq_339]
      simp (disch := first | assumption | omega | (simp (disch := omega) only [vM_u, vS_u]; first | assumption | omega)) only [hK, hL, hR, hI, hN, sI, hSp, hC, hW, li, lr, ↓cnd_a, ↓cnd_o, ↓cnd_n, ↓cnd_d, ↓z0, ↓z1, ↓z2, y0n, y1i, y2r, y0e, y1e, y2e, wl_0, wl_1, wl_2, wl_3, wl_4, wl_5, wl_6, wl_7, wl_8, wl_9, wl_10, wl_11, wl_12, wl_13, wl_14, wl_15, wl_16, wl_17, wl_18, wl_19, wl_20, wl_21, wl_22, wl_23, wl_24, wl_25, wl_26, wl_27, wl_28, wl_29, wl_30, wl_31, wl_32, wl_33, wl_34, wl_35, wl_36, wl_37, wl_38, wl_39, wl_40, wl_41, wl_42, wl_43, wl_44, wl_45, wl_46, wl_47, wl_48, wl_49, wl_50, wl_51, wl_52, wl_53, wl_54, wl_55, wl_56, wl_57, wl_58, wl_59, wl_60, wl_61, wl_62, wl_63, wl_64, wl_65, wl_66, wl_67, wl_68, wl_69, wl_70, wl_71, wl_72, wl_73, wl_74, wl_75, wl_76, wl_77, wl_78, wl_79, wl_80, wl_81, wl_82, wl_83, wl_84, wl_85, wl_86, wl_87, wl_88, wl_89, wl_90, wl_91, wl_92, wl_93, wl_94, wl_95, wl_96, wl_97, wl_98, wl_99, wl_100, wl_101, wl_102, wl_103, wl_104, wl_105, wl_106, wl_107, wl_108, wl_109, wl_110, wl_111, wl_112, wl_113, wl_114, wl_115, wl_116, wl_117, wl_118, wl_119, wl_120, wl_121, wl_122, wl_123, wl_124, wl_125, wl_126, wl_127, wl_128, wl_129, wl_130, wl_159, wl_160, wl_200, wl_232, wl_255, wl_256, wl_300, wl_359, wl_360, wl_400, wl_592, wl_992, wl_999, wl_1000, wl_1024, wl_3456, wl_6512, wl_7104, wl_10000, wl_11264, wl_12345, wl_32767, wl_1000000000, wl_1103515245, wl_2000000000, w_add, w_sub, w_mul, w_neg, w_lt, w_le, w_eq, w_cl, w_in, w_nat, w_max2, w_min2, w_abs2, iltT, iltF, ileT, ileF, ieqT, ieqF, bv_01, bft, bv_0, bv_1, bv_t, bv_f, cond_true, cond_false, Bool.not_true, Bool.not_false, if_true, if_false, true_or, or_true, true_and, and_true, ↓reduceIte, decide_true, decide_false, reduceCtorEq, u2_s, u2_o, u2_k, u2_u2, Bool.true_or, Bool.or_true, Bool.false_or, Bool.or_false, Bool.and_true, Bool.true_and, Bool.and_false, Bool.false_and, eq_self, not_true_eq_false, not_false_eq_true, and_self, and_true, true_and, false_and, and_false, w_dv, dvm, sJ, XSH_e hX, e1, k1, k2]
      all_goals rfl
end STF
