/-! steps: feed, end, gauge -/
section STT
variable {vn vc vw : Nat} {K L : Nat → Nat} {R : Nat → Nat → Nat} {I : Nat → Nat → Int32} {J : Nat → Nat → Int64}
variable {S : Nat → Int32} {ls : Nat}
def gTap (g : Gho) (T : Int → Int) (e : Int) : Gho := (g.1, (T, e, gfl g), g.2.2)
theorem IVc_tp {K L : Nat → Nat} {R : Nat → Nat → Nat} {I I' : Nat → Nat → Int32} {N : Int} {g : Gho} {mk nx : Int} {T : Int → Int} {e : Int} (h : ∀ a k, a < 82 ∨ 90 < a → I' a k = I a k) (hT : Tp I' T e) (x : IVc K L R I N g mk nx) : IVc K L R I' N (gTap g T e) mk nx := by
  obtain ⟨x1, x2, x3, x4, x5, x6, ⟨x7, x8⟩, ⟨x9, y1⟩, y2, y3, y4⟩ := x
  obtain ⟨z1, z2, z3, z4, z5, z6, ⟨ss', ln', z7⟩, z8⟩ := id x1
  have hO : OddsI I' mk := by
    obtain ⟨u1, u2', u3⟩ := z8
    exact ⟨by rw [h _ _ (by omega)]; exact u1, u2', fun c hc => by rw [h _ _ (by omega)]; exact u3 c hc⟩
  have hv : vS I' 91 = gm g := by rw [vS_f' (fun a k u1 u2 u3 => h _ _ (by omega))]; exact z4
  refine ⟨⟨z1, z2, Wd_f' (fun a q => h _ _ (by omega)) z3, hv, z5, ALaw_f z6 (fun a k q => h a k (by omega)) rfl, ⟨ss', ln', AimOK_f z7 (fun a k q => h a k (by omega))⟩, hO⟩, x2, SWA_f (fun a k q => h a k (by omega)) x3, hT, by rw [h _ _ (by omega)]; exact x5, PX_f (fun a k p q => h a k (by omega)) x6, ⟨x7, Wd_f' (fun a q => h _ _ (by omega)) x8⟩, ⟨x9, Wd_f' (fun a q => h _ _ (by omega)) y1⟩, by rw [h _ _ (by omega)]; exact y2, fun q => ?_, y4⟩
  · obtain ⟨q1, q2⟩ := y3 q
    refine ⟨?_, ALaw_f q2 (fun a k q => h a k (by omega)) rfl⟩
    show vS I' 103 = gkm g
    rw [← q1]
    exact vS_f' (fun a k u1 u2 u3 => h _ _ (by omega))
theorem IVm_tp {K L : Nat → Nat} {R : Nat → Nat → Nat} {I I' : Nat → Nat → Int32} {g : Gho} {T : Int → Int} {e : Int} (h : ∀ a k, a ≤ 77 ∨ (288 ≤ a ∧ a < 292) ∨ (a = 287 ∧ (k = 3 ∨ k = 6 ∨ k = 12)) → I' a k = I a k) (h15 : I' 287 15 = w 0 ∨ I' 287 15 = w 1) (hT : TpR I' T e) (x : IVm K L R I g) : IVm K L R I' (gTap g T e) := by
  obtain ⟨⟨z1, z2, z3, z4, z5, z6⟩, x2, x3, x4, x5, x6, x7⟩ := x
  have e12 : mI I' 12 = mI I 12 := by unfold mI; rw [h _ _ (by omega)]
  refine ⟨⟨z1, SWA_f (fun a k q => h a k (by omega)) z2, RLaw_f (fun k q => h _ _ (by omega)) z3, by rw [vM_f (fun k => h _ _ (by omega))]; exact z4, z5, h15⟩, by rw [e12]; exact x2, hT, by rw [h _ _ (by omega)]; exact x4, PM_f ⟨fun k => h _ _ (by omega), h _ _ (by omega), h _ _ (by omega), h _ _ (by omega)⟩ x5, by rw [h _ _ (by omega)]; exact x6, fun q => ?_⟩
  · obtain ⟨q1, q2, q3⟩ := x7 q
    have ek : ∀ k, keptI I' 288 k = keptI I 288 k := fun k => by
      show I' 289 k = I 289 k
      exact h _ _ (by omega)
    refine ⟨by rw [vM_f ek]; exact q1, ?_, RLaw_f (fun k _ => ek k) q3⟩
    show mI (keptI I') 12 = allT (gkm g)
    rw [← q2]
    unfold mI
    rw [ek]
/-- a step that changes the tape alone -/
theorem StD_tp {N : Int} {g : Gho} {mk nx e : Int} {T : Int → Int} {v : Int32} {I1 I2 : Nat → Nat → Int32} {a b : HS → Option Res} (xg : IVg N g) (xc : IVc K L R I N g mk nx) (xm : IVm K L R I g) (xs : IVs vn vc vw K L I N S ls)
    (e1 : a (((vn, vc, vw, K, L, R), I, J) : HS) = some (.inl (some (.int v)), (((vn, vc, vw, K, L, R), I1, J) : HS))) (e2 : b (((vn, vc, vw, K, L, R), I1, J) : HS) = some (.inl (some (.int v)), (((vn, vc, vw, K, L, R), I2, J) : HS))) (h1 : ∀ a k, a < 82 ∨ 90 < a → I1 a k = I a k) (hT1 : Tp I1 T e) (h2 : ∀ a k, a < 287 ∨ 305 ≤ a → I2 a k = I1 a k) (h3 : ∀ a k, a ≤ 77 ∨ (288 ≤ a ∧ a < 292) ∨ (a = 287 ∧ (k = 3 ∨ k = 6 ∨ k = 12 ∨ k = 15)) → I2 a k = I a k) (hT2 : TpR I2 T e) : StD S ls N (((vn, vc, vw, K, L, R), I, J) : HS) a b := by
  refine ⟨v, _, _, e1, ⟨xs.2.1, xs.2.2.1, fun k => by show I1 78 k = S k; rw [h1 _ _ (by omega)]; exact xs.2.2.2 k, (XSH_e xc.1.1).1, (MSH_e xm.1.1).1, xc.2.2.2.2.2.2.2.2.2.2⟩, e2, ⟨vn, vc, vw, K, L, R, I2, J, gTap g T e, mk, nx, rfl, IVg_mono (by omega) xg, IVc_mono (by omega) (IVc_f h2 (IVc_tp h1 hT1 xc)), IVm_tp (fun a k q => h3 a k (by omega)) (by rw [h3 _ _ (by omega)]; exact xm.1.2.2.2.2.2) hT2 xm, IVs_mono xs ⟨rfl, by omega, by omega⟩ (fun k => by rw [h2 _ _ (by omega), h1 _ _ (by omega)])⟩⟩
theorem st_158 {d : Nat} {N : Int} {s : HS} (z : INV S ls N s) (a0 a1 a2 a3 a4 : Int32) : StD S ls N s (ev PR (d + 40) 158 [.ref 79, .int a0, .int a1, .int a2, .int a3, .int a4]) (ev PR (d + 40) 230 [.ref 287, .int a0, .int a1, .int a2, .int a3, .int a4]) := by
  obtain ⟨vn, vc, vw, K, L, R, I, J, g, mk, nx, rfl, xg, xc, xm, xs⟩ := z
  obtain ⟨t1', t2', t3', t4'⟩ := xc.2.2.2.1
  obtain ⟨u1', u2', u3', u4'⟩ := xm.2.2.1
  have s1 := sp_158 (d := d + 38) (v1 := a0) (v2 := a1) (v3 := a2) (v4 := a3) (v5 := a4) (vn := vn) (vc := vc) (vw := vw) (J := J) xc.1.1 t1' t2'
  by_cases c : ge g + 20 ≤ 400
  · rw [if_pos c] at s1
    obtain ⟨T', hT'⟩ : ∃ T' : Int → Int, T' = fun k => if k < ge g then gT g k else (byF a0 a1 a2 a3 a4 (k - ge g)).toInt := ⟨_, rfl⟩
    have hb : ∀ j, ∃ z, byF a0 a1 a2 a3 a4 j = w z ∧ 0 ≤ z ∧ z ≤ 255 := fun j => by
      unfold byF
      exact by8_r _ _
    have hr : ∀ k, 0 ≤ k → k < ge g + 20 → 0 ≤ T' k ∧ T' k ≤ 255 := fun k a b => by
      rw [hT']
      dsimp only
      split
      · exact t3' k a (by omega)
      · obtain ⟨z, y1, y2⟩ := hb (k - ge g)
        rw [y1, w_toInt (by omega)]
        exact y2
    obtain ⟨I1, hI1⟩ : ∃ I1, I1 = fdC I (ge g) (byF a0 a1 a2 a3 a4) 20 := ⟨_, rfl⟩
    rw [← hI1] at s1
    have s2 := sp_230 (d := d + 38) (I := I1) (e := ge g) (v1 := a0) (v2 := a1) (v3 := a2) (v4 := a3) (v5 := a4) (vn := vn) (vc := vc) (vw := vw) (J := J) xm.1.1 (by
      rw [hI1]
      unfold fdC fdI
      rw [u2_o _ _ _ _ (by decide), if_neg (by omega)]
      exact u1') t2'
    rw [if_pos c] at s2
    have f1 : ∀ a k, (a = 83 ∨ a = 82 ∧ k = 1) ∨ I1 a k = I a k := fun a k => by
      by_cases q : a = 83 ∨ a = 82 ∧ k = 1
      · exact Or.inl q
      · refine Or.inr ?_
        rw [hI1]
        unfold fdC fdI
        rw [u2_r, if_neg (by omega), if_neg (by omega)]
    obtain ⟨I2, hI2⟩ : ∃ I2, I2 = fdR (u2 I1 287 0 (w 0)) (ge g) (byF a0 a1 a2 a3 a4) 20 := ⟨_, rfl⟩
    rw [← hI2] at s2
    have f2 : ∀ a k, (a = 292 ∨ a = 287 ∧ (k = 8 ∨ k = 0)) ∨ I2 a k = I1 a k := fun a k => by
      by_cases q : a = 292 ∨ a = 287 ∧ (k = 8 ∨ k = 0)
      · exact Or.inl q
      · refine Or.inr ?_
        rw [hI2]
        unfold fdR fdI
        rw [u2_r, if_neg (by omega), if_neg (by omega), u2_r, if_neg (by omega)]
    have F1 : ∀ a k, a < 82 ∨ 83 < a → I1 a k = I a k := fun a k q => (f1 a k).resolve_left (by omega)
    have F2' : ∀ a k, a < 287 ∨ 292 < a ∨ (287 < a ∧ a < 292) ∨ (a = 287 ∧ k ≠ 8 ∧ k ≠ 0) → I2 a k = I1 a k := fun a k q => (f2 a k).resolve_left (by omega)
    refine StD_tp (T := T') (e := ge g + 20) xg xc xm xs s1 s2 (fun a k q => F1 _ _ (by omega)) ⟨?_, by omega, hr, fun k a b => ?_⟩ (fun a k q => F2' _ _ (by omega)) (fun a k q => by rw [F2' _ _ (by omega), F1 _ _ (by omega)]) ⟨?_, by omega, hr, fun k a b => ?_⟩
    · rw [hI1]; unfold fdC; rw [u2_s]
    · rw [hI1, hT']
      unfold fdC fdI
      rw [u2_o _ _ _ _ (by decide)]
      have e83 : ((ix k : Nat) : Int) = k := by unfold ix; omega
      dsimp only
      by_cases q : k < ge g
      · rw [if_neg (by omega), if_pos q]; exact t4' k a q
      · rw [if_pos (by omega), if_neg q, e83, w_of]
    · rw [hI2]; unfold fdR; rw [u2_s]
    · rw [hI2, hT']
      unfold fdR fdI
      rw [u2_o _ _ _ _ (by decide)]
      have e83 : ((ix k : Nat) : Int) = k := by unfold ix; omega
      dsimp only
      by_cases q : k < ge g
      · rw [if_neg (by omega), if_pos q, u2_o _ _ _ _ (by decide), F1 _ _ (by omega)]; exact u4' k a q
      · rw [if_pos (by omega), if_neg q, e83, w_of]
  · rw [if_neg c] at s1
    have s2 := sp_230 (d := d + 38) (I := I) (e := ge g) (v1 := a0) (v2 := a1) (v3 := a2) (v4 := a3) (v5 := a4) (vn := vn) (vc := vc) (vw := vw) (J := J) xm.1.1 u1' t2'
    rw [if_neg c] at s2
    exact ⟨_, _, _, s1, Mid_i xc xm xs.2, s2, INV_u0 (v := w 0) xg xc xm xs⟩
theorem st_159 {d : Nat} {N : Int} {s : HS} (z : INV S ls N s) (a0 : Int32) : StD S ls N s (ev PR (d + 40) 159 [.ref 79, .int a0]) (ev PR (d + 40) 231 [.ref 287, .int a0]) := by
  obtain ⟨vn, vc, vw, K, L, R, I, J, g, mk, nx, rfl, xg, xc, xm, xs⟩ := z
  obtain ⟨t1', t2', t3', t4'⟩ := xc.2.2.2.1
  obtain ⟨u1', u2', u3', u4'⟩ := xm.2.2.1
  have s1 := sp_159 (d := d + 38) (k := a0) (vn := vn) (vc := vc) (vw := vw) (J := J) xc.1.1 t1' t2'
  by_cases c : 0 ≤ a0.toInt ∧ a0.toInt ≤ ge g
  · rw [if_pos c] at s1
    have s2 := sp_231 (d := d + 38) (k := a0) (I := u2 I 82 1 a0) (vn := vn) (vc := vc) (vw := vw) (J := J) xm.1.1 (by rw [u2_o _ _ _ _ (by decide)]; exact u1') t2'
    rw [if_pos c] at s2
    refine StD_tp (T := gT g) (e := a0.toInt) xg xc xm xs s1 s2 (fun a k q => u2_o _ _ _ _ (by omega)) ⟨?_, by omega, fun k a b => t3' k a (by omega), fun k a b => ?_⟩ (fun a k q => ?_) (fun a k q => ?_) ⟨?_, by omega, fun k a b => t3' k a (by omega), fun k a b => ?_⟩
    · rw [u2_s, w_of]
    · rw [u2_o _ _ _ _ (by decide)]; exact t4' k a (by omega)
    · rw [u2_o _ _ _ _ (by omega), u2_o _ _ _ _ (by omega)]
    · rw [u2_r, if_neg (by omega), u2_r, if_neg (by omega), u2_o _ _ _ _ (by omega)]
    · rw [u2_s, w_of]
    · rw [u2_o _ _ _ _ (by decide), u2_o _ _ _ _ (by decide), u2_o _ _ _ _ (by decide)]; exact u4' k a (by omega)
  · rw [if_neg c] at s1
    have s2 := sp_231 (d := d + 38) (k := a0) (I := I) (vn := vn) (vc := vc) (vw := vw) (J := J) xm.1.1 u1' t2'
    rw [if_neg c] at s2
    exact ⟨_, _, _, s1, Mid_i xc xm xs.2, s2, INV_u0 (v := w 0) xg xc xm xs⟩
theorem st_366 {d : Nat} {N : Int} {s : HS} (z : INV S ls N s) (a0 : Int32) : StW S ls N s (ev PR (d + 40) 366 [.ref 79, .int a0, .ref 304]) (ev PR (d + 40) 319 [.ref 287, .int a0]) := by
  obtain ⟨vn, vc, vw, K, L, R, I, J, g, mk, nx, rfl, xg, xc, xm, xs⟩ := z
  have gj := xc.2.2.2.2.2.2.2.2.2.2
  have hTp := xc.2.2.2.1
  have hTr := xm.2.2.1
  obtain ⟨wf, wt⟩ := w_366 (d := d + 33) (nx := a0.toInt) (vn := vn) (vc := vc) (vw := vw) (J := J) gj xc.1.1 hTp (i_rng a0)
  rw [w_of] at wf wt
  have key : ∀ I1 : Nat → Nat → Int32, I1 82 1 = w 0 → (∀ a k, a ≠ 90 → (a = 82 → k ≠ 1) → I1 a k = I a k) → ∀ I2 : Nat → Nat → Int32, (∀ a j, a ≠ 303 → I2 a j = u2 (u2 I1 287 8 (w 0)) 287 0 (I2 287 0) a j) → TpR I1 (gT g) (ge g) ∧ IVc K L R I2 N (gTap g (gT g) 0) mk nx ∧ IVm K L R I2 (gTap g (gT g) 0) ∧ (∀ k, I2 78 k = I 78 k) ∧ ∀ k, I1 78 k = I 78 k := fun I1 h1 h2 I2 h3 => by
    have q1 : TpR I1 (gT g) (ge g) := by
      obtain ⟨u1', u2', u3', u4'⟩ := hTr
      exact ⟨by rw [h2 _ _ (by decide) (by omega)]; exact u1', u2', u3', fun k a b => by rw [h2 _ _ (by decide) (by omega)]; exact u4' k a b⟩
    have c1 : IVc K L R I1 N (gTap g (gT g) 0) mk nx := IVc_tp (fun a k q => h2 _ _ (by omega) (by omega)) ⟨h1, by omega, fun k a b => by omega, fun k a b => by omega⟩ xc
    have c2 : IVc K L R I2 N (gTap g (gT g) 0) mk nx := IVc_f (fun a k q => by rw [h3 _ _ (by omega), u2_o _ _ _ _ (by omega), u2_o _ _ _ _ (by omega)]) c1
    refine ⟨q1, c2, IVm_tp (fun a k q => ?_) ?_ ⟨?_, by omega, fun k a b => by omega, fun k a b => by omega⟩ xm, fun k => ?_, fun k => h2 _ _ (by omega) (by omega)⟩
    · rw [h3 _ _ (by omega), u2_r, if_neg (by omega), u2_r, if_neg (by omega), h2 _ _ (by omega) (by omega)]
    · rw [h3 _ _ (by decide), u2_r, if_neg (by omega), u2_r, if_neg (by omega), h2 _ _ (by decide) (by omega)]
      exact xm.1.2.2.2.2.2
    · rw [h3 _ _ (by decide), u2_r, if_neg (by omega), u2_s]
    · rw [h3 _ _ (by omega), u2_o _ _ _ _ (by omega), u2_o _ _ _ _ (by omega), h2 _ _ (by omega) (by omega)]
  cases hg : gGd (gT g) (ge g) with
  | false =>
    obtain ⟨I1, e1, h1, h2⟩ := wf hg
    obtain ⟨I2, hI2⟩ : ∃ I2, I2 = u2 (u2 I1 287 8 (w 0)) 287 0 (w 1) := ⟨_, rfl⟩
    have e0 : I2 287 0 = w 1 := by rw [hI2, u2_s]
    obtain ⟨q1, q2, q3, q4, q5⟩ := key I1 h1 h2 I2 (fun a j _ => by rw [e0, hI2])
    obtain ⟨v', e2⟩ := (m_319 (d := d + 35) (nx := a0.toInt) (vn := vn) (vc := vc + 1) (vw := vw + 6) (J := J) xm.1.1 q1 (i_rng a0)).1 hg
    rw [w_of, ← hI2] at e2
    exact ⟨w 1, v', _, _, e1, ⟨xs.2.1, xs.2.2.1, fun k => (q5 k).trans (xs.2.2.2 k), (XSH_e xc.1.1).1, (MSH_e xm.1.1).1, gj⟩, e2, e0, fun q => absurd q (by decide), ⟨vn, vc + 1, vw + 6, K, L, R, I2, J, gTap g (gT g) 0, mk, nx, rfl, (IVg_mono (by omega) xg : IVg (N + 1) g), IVc_mono (by omega) q2, q3, IVs_mono xs ⟨rfl, by omega, by omega⟩ q4⟩⟩
  | true =>
    obtain ⟨I1, e1, h1, h2⟩ := wt hg
    have q1 : TpR I1 (gT g) (ge g) := by
      obtain ⟨u1', u2', u3', u4'⟩ := hTr
      exact ⟨by rw [h2 _ _ (by decide) (by omega)]; exact u1', u2', u3', fun k a b => by rw [h2 _ _ (by decide) (by omega)]; exact u4' k a b⟩
    obtain ⟨I2, e2, h3⟩ := (m_319 (d := d + 35) (nx := a0.toInt) (vn := vn) (vc := vc) (vw := vw) (J := u2 J 304 0 (w (vGau (gT g) (ge g) a0.toInt)).toInt64) xm.1.1 q1 (i_rng a0)).2 hg
    have e0 : I2 287 0 = w 0 := by rw [h3 _ _ (by decide), u2_s]
    obtain ⟨_, q2, q3, q4, q5⟩ := key I1 h1 h2 I2 (fun a j q => by rw [e0]; exact h3 a j q)
    rw [w_of] at e2
    exact ⟨w 0, _, _, _, e1, ⟨xs.2.1, xs.2.2.1, fun k => (q5 k).trans (xs.2.2.2 k), (XSH_e xc.1.1).1, (MSH_e xm.1.1).1, gj⟩, e2, e0, fun _ => (by show u2 J 304 0 _ 304 0 = _; exact u2_s _ _ _ _), ⟨vn, vc, vw, K, L, R, I2, _, gTap g (gT g) 0, mk, nx, rfl, (IVg_mono (by omega) xg : IVg (N + 1) g), IVc_mono (by omega) q2, q3, IVs_mono xs ⟨rfl, by omega, by omega⟩ q4⟩⟩
end STT
