/-! what a change of the fair does to what holds -/
def gRem (g : Gho) : Gho := (g.1, g.2.1, (min (gn g + 1) 12, fun j => if j = 0 then gm g else gPs g (j - 1)), g.2.2.2)
def gMut (g : Gho) (m' : Int → Int) : Gho := ((m', g.1.2), g.2)
theorem IVg_rem {N : Int} {g : Gho} (x : IVg N g) (hn : 0 ≤ gn g) : IVg N (gRem g) := by
  obtain ⟨x1, x2, x3, x4, x5⟩ := x
  refine ⟨x1, fun j a b => ?_, x3, x4, x5⟩
  show GD N (if j = 0 then gm g else gPs g (j - 1))
  by_cases c : j = 0
  · rw [if_pos c]; exact x1
  · rw [if_neg c]
    have b' : j < min (gn g + 1) 12 := b
    exact x2 (j - 1) (by omega) (by omega)
theorem IVg_mut {N N' : Int} {g : Gho} {m' : Int → Int} (x : IVg N g) (h : N ≤ N') (hg : GD N' m') : IVg N' (gMut g m') := by
  have y := IVg_mono h x
  exact ⟨hg, y.2⟩
section MUT
variable {vn vc vw : Nat} {K L : Nat → Nat} {R : Nat → Nat → Nat} {I : Nat → Nat → Int32} {J : Nat → Nat → Int64}
theorem IVm_cls {R' : Nat → Nat → Nat} {I' : Nat → Nat → Int32} {g : Gho} (h : ∀ a k, a ≤ 77 ∨ 287 ≤ a → I' a k = I a k) (hr : ∀ a k, 287 ≤ a → R' a k = R a k) (x : IVm K L R I g) : IVm K L R' I' g :=
  IVm_r hr (IVm_f (fun a k q => h a k (by omega)) (by rw [h _ _ (by omega)]; exact x.1.2.2.2.2.2) x)
theorem IVc_past {d : Nat} {N : Int} {g : Gho} {mk nx : Int} (x : IVc K L R I N g mk nx) :
    ∃ R' I', ev PR (d + 3) 64 [.ref 127, .ref 91] (((vn, vc, vw, K, L, R), I, J) : HS) = some (.inl none, (((vn, vc, vw, K, L, R'), I', J) : HS)) ∧ IVc K L R' I' N (gRem g) mk ((nx + 1) % 12) ∧ FP I I' ∧ RS R R' := by
  obtain ⟨x1, x2, x3, x4, x5, x6, ⟨x7, x8⟩, ⟨x9, y1⟩, y2, y3, y4⟩ := x
  obtain ⟨z1', z2', z3, z4, z5, z6, ⟨ss', ln', z7⟩, z8⟩ := id x1
  obtain ⟨R', I', e, hp, hf, hr, hr3⟩ := sp_64 (d := d) (vn := vn) (vc := vc) (vw := vw) (J := J) z1' z2' z3 (by rw [z4]; exact SzB_BD z5) x6
  rw [z4] at hp
  have l1 := z6.2.1.1
  have rq := RQ_S hr
  have hO : OddsI I' mk := by
    obtain ⟨u1, u2', u3⟩ := z8
    exact ⟨by rw [hf _ _ (by omega)]; exact u1, u2', fun c hc => by rw [hf _ _ (by omega)]; exact u3 c hc⟩
  have r4 : R' 273 4 = R 273 4 := hr _ _ (by omega)
  have hA : AimOK K L R' I' ss' ln' := by
    have := AimOK_f (I' := I') z7 (fun a k q => hf a k (by omega))
    obtain ⟨p1, p2⟩ := this
    refine ⟨?_, p2⟩
    rw [r4]
    exact ALaw_f p1 (fun _ _ _ => rfl) (hr _ _ (by omega))
  have hL : ALaw K L R' I' (R' 91 10) (gss g) (gln g) := by
    rw [hr3 91 (by omega)]
    exact ALaw_f z6 (fun a k q => hf a k (by omega)) (hr _ _ (by omega))
  have hv : vS I' 91 = gm g := by rw [vS_f' (fun a k u1 u2 u3 => hf _ _ (by omega))]; exact z4
  refine ⟨R', I', e, ⟨⟨XSH_r rq z1', SHq_r rq z2', Wd_f' (fun a q => hf _ _ (by omega)) z3, hv, z5, hL, ⟨ss', ln', hA⟩, hO⟩, x2, SWA_f (fun a k q => hf a k (by omega)) x3, Tp_f (fun a k q => hf a k (by omega)) x4, by rw [hf _ _ (by omega)]; exact x5, hp, ⟨SHq_r rq x7, Wd_f' (fun a q => hf _ _ (by omega)) x8⟩, ⟨SHq_r rq x9, Wd_f' (fun a q => hf _ _ (by omega)) y1⟩, by rw [hf _ _ (by omega)]; exact y2, fun q => ?_, y4⟩, hf, hr⟩
  obtain ⟨q1, q2⟩ := y3 q
  refine ⟨?_, ?_⟩
  · show vS I' 103 = gkm g
    rw [← q1]
    exact vS_f' (fun a k u1 u2 u3 => hf _ _ (by omega))
  · rw [hr3 103 (by omega)]
    exact ALaw_f q2 (fun a k q => hf a k (by omega)) (hr _ _ (by omega))
/-- the stall itself changes -/
theorem IVc_st {N : Int} {g : Gho} {mk nx : Int} {I' : Nat → Nat → Int32} {m' : Int → Int} (h : Fst 91 I I') (hv : vS I' 91 = m') (hB : BD m') (hWd : Wd I' 91) (x : IVc K L R I N g mk nx) : IVc K L R I' N (gMut g m') mk nx := by
  have hf : ∀ a k, (a < 91 ∨ 102 < a) → I' a k = I a k := fun a k q => h a k (by omega)
  obtain ⟨x1, x2, x3, x4, x5, x6, ⟨x7, x8⟩, ⟨x9, y1⟩, y2, y3, y4⟩ := x
  obtain ⟨z1', z2', z3, z4, z5, z6, ⟨ss', ln', z7⟩, z8⟩ := id x1
  have hO : OddsI I' mk := by
    obtain ⟨u1, u2', u3⟩ := z8
    exact ⟨by rw [hf _ _ (by omega)]; exact u1, u2', fun c hc => by rw [hf _ _ (by omega)]; exact u3 c hc⟩
  refine ⟨⟨z1', z2', hWd, hv, hB, ALaw_f z6 (fun a k q => hf a k (by omega)) rfl, ⟨ss', ln', AimOK_f z7 (fun a k q => hf a k (by omega))⟩, hO⟩, x2, SWA_f (fun a k q => hf a k (by omega)) x3, Tp_f (fun a k q => hf a k (by omega)) x4, by rw [hf _ _ (by omega)]; exact x5, PX_f (fun a k p q => hf a k (by omega)) x6, ⟨x7, Wd_f' (fun a q => hf _ _ (by omega)) x8⟩, ⟨x9, Wd_f' (fun a q => hf _ _ (by omega)) y1⟩, by rw [hf _ _ (by omega)]; exact y2, fun q => ?_, y4⟩
  obtain ⟨q1, q2⟩ := y3 q
  refine ⟨?_, ALaw_f q2 (fun a k q => hf a k (by omega)) rfl⟩
  show vS I' 103 = gkm g
  rw [← q1]
  exact vS_f' (fun a k u1 u2 u3 => hf _ _ (by omega))
theorem IVm_past {d : Nat} {N : Int} {g : Gho} (xg : IVg N g) (x : IVm K L R I g) :
    ∃ I', ev PR (d + 1) 277 [.ref 287] (((vn, vc, vw, K, L, R), I, J) : HS) = some (.inl none, (((vn, vc, vw, K, L, R), I', J) : HS)) ∧ IVm K L R I' (gRem g) ∧ ∀ a k, a ≠ 291 → (a = 287 → k ≠ 6) → I' a k = I a k := by
  obtain ⟨⟨z1', z2', z3, z4, z5, z6⟩, x2, x3, x4, x5, x6, x7⟩ := x
  obtain ⟨I', e, hp, hf⟩ := sp_277 (d := d) (vn := vn) (vc := vc) (vw := vw) (J := J) z1' (by rw [z4]; exact z5) (by rw [z4]; exact x2) x5 (fun j a b => (xg.2.1 j a b).1)
  rw [z4] at hp
  have e12 : mI I' 12 = mI I 12 := by unfold mI; rw [hf _ _ (by decide) (by decide)]
  refine ⟨I', e, ⟨⟨z1', SWA_f (fun a k q => hf a k (by omega) (by omega)) z2', RLaw_f (fun k q => hf _ _ (by omega) (by omega)) z3, by rw [vM_f (fun k => hf _ _ (by omega) (by omega))]; exact z4, z5, by rw [hf _ _ (by omega) (by omega)]; exact z6⟩, by rw [e12]; exact x2, ?_, by rw [hf _ _ (by omega) (by omega)]; exact x4, hp, by rw [hf _ _ (by omega) (by omega)]; exact x6, fun q => ?_⟩, hf⟩
  · obtain ⟨t1', t2', t3', t4'⟩ := x3
    exact ⟨by rw [hf _ _ (by omega) (by omega)]; exact t1', t2', t3', fun k a b => by rw [hf _ _ (by omega) (by omega)]; exact t4' k a b⟩
  · obtain ⟨q1, q2, q3⟩ := x7 q
    have ek : ∀ k, keptI I' 288 k = keptI I 288 k := fun k => by
      show I' 289 k = I 289 k
      exact hf _ _ (by omega) (by omega)
    refine ⟨by rw [vM_f ek]; exact q1, ?_, RLaw_f (fun k _ => ek k) q3⟩
    show mI (keptI I') 12 = allT (gkm g)
    rw [← q2]
    unfold mI
    rw [ek]
/-- the reference's cells change -/
theorem IVm_st {g : Gho} {I' : Nat → Nat → Int32} {m' : Int → Int} (h : FH I I') (hv : vM I' = m') (hB : BD m') (h12 : mI I' 12 = allT m') (h15 : I' 287 15 = w 0 ∨ I' 287 15 = w 1) (x : IVm K L R I g) : IVm K L R I' (gMut g m') := by
  have hf : ∀ a k, a ≤ 77 ∨ (289 ≤ a ∧ a < 293) ∨ (a = 287 ∧ (k < 9 ∨ k = 12)) → I' a k = I a k := fun a k q => h a k (by omega) (by omega)
  have h1 : I' 288 1 = I 288 1 ∧ I' 288 2 = I 288 2 := ⟨h _ _ (by omega) (by omega), h _ _ (by omega) (by omega)⟩
  obtain ⟨⟨z1', z2', z3, z4, z5, z6⟩, x2, x3, x4, x5, x6, x7⟩ := x
  refine ⟨⟨z1', SWA_f (fun a k q => hf a k (by omega)) z2', RLaw_f (fun k q => ?_) z3, hv, hB, h15⟩, h12, ?_, by rw [hf _ _ (by omega)]; exact x4, PM_f ⟨fun k => hf _ _ (by omega), h1.1, h1.2, hf _ _ (by omega)⟩ x5, by rw [hf _ _ (by omega)]; exact x6, fun q => ?_⟩
  · rcases q with q | q | q
    · rw [q]; exact h1.1
    · rw [q]; exact h1.2
    · exact h _ _ (by omega) (by omega)
  · obtain ⟨t1', t2', t3', t4'⟩ := x3
    exact ⟨by rw [hf _ _ (by omega)]; exact t1', t2', t3', fun k a b => by rw [hf _ _ (by omega)]; exact t4' k a b⟩
  · obtain ⟨q1, q2, q3⟩ := x7 q
    have ek : ∀ k, keptI I' 288 k = keptI I 288 k := fun k => by
      show I' 289 k = I 289 k
      exact hf _ _ (by omega)
    refine ⟨by rw [vM_f ek]; exact q1, ?_, RLaw_f (fun k _ => ek k) q3⟩
    show mI (keptI I') 12 = allT (gkm g)
    rw [← q2]
    unfold mI
    rw [ek]
end MUT
