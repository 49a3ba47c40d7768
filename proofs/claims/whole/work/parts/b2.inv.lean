/-! what holds between two calls -/
def GD (N : Int) (m : Int → Int) : Prop := BD m ∧ PL (2000 + N) m ∧ PLg m ∧ PT N m ∧ 0 ≤ m 0 ∧ m 0 ≤ 12
theorem PT_mono {N N' : Int} {m : Int → Int} (h : N ≤ N') (g : PT N m) : PT N' m := fun p a b => by have := g p a b; omega
theorem GD_mono {N N' : Int} {m : Int → Int} (h : N ≤ N') (g : GD N m) : GD N' m := ⟨g.1, PL_mono (by omega) g.2.1, g.2.2.1, PT_mono h g.2.2.2.1, g.2.2.2.2⟩
def keptI (I : Nat → Nat → Int32) : Nat → Nat → Int32 := fun a k => if a = 288 then I 289 k else I a k
/-- what is alike on both sides: the fair, the law, the tape, the fault, the past, the image -/
abbrev Gho : Type := ((Int → Int) × List Int × Int) × ((Int → Int) × Int × Int) × (Int × (Int → Int → Int)) × Int × (Int → Int) × List Int × Int
abbrev gm (g : Gho) : Int → Int := g.1.1
abbrev gss (g : Gho) : List Int := g.1.2.1
abbrev gln (g : Gho) : Int := g.1.2.2
abbrev gT (g : Gho) : Int → Int := g.2.1.1
abbrev ge (g : Gho) : Int := g.2.1.2.1
abbrev gfl (g : Gho) : Int := g.2.1.2.2
abbrev gn (g : Gho) : Int := g.2.2.1.1
abbrev gPs (g : Gho) : Int → Int → Int := g.2.2.1.2
abbrev gb (g : Gho) : Int := g.2.2.2.1
abbrev gkm (g : Gho) : Int → Int := g.2.2.2.2.1
abbrev gks (g : Gho) : List Int := g.2.2.2.2.2.1
abbrev gkl (g : Gho) : Int := g.2.2.2.2.2.2
def IVg (N : Int) (g : Gho) : Prop := GD N (gm g) ∧ (∀ j, 0 ≤ j → j < gn g → GD N (gPs g j)) ∧ (gb g = 0 ∨ gb g = 1) ∧ (gb g = 1 → GD N (gkm g)) ∧ -1 ≤ gfl g ∧ gfl g ≤ 400
def IVc (K L : Nat → Nat) (R : Nat → Nat → Nat) (I : Nat → Nat → Int32) (N : Int) (g : Gho) (mk nx : Int) : Prop :=
  CQ K L R I (gm g) (gss g) (gln g) mk ∧ mk ≤ 1 + 5000 * N ∧ SWA K L I ∧ Tp I (gT g) (ge g) ∧ I 79 12 = w (gfl g) ∧ PX K L R I (gn g) nx (gPs g) ∧ (SHq K L R 103 ∧ Wd I 103) ∧ (SHq K L R 115 ∧ Wd I 115) ∧ I 79 11 = w (gb g) ∧ (gb g = 1 → vS I 103 = gkm g ∧ ALaw K L R I (R 103 10) (gks g) (gkl g)) ∧ K 304 = 21 ∧ L 304 = 1
def IVm (K L : Nat → Nat) (R : Nat → Nat → Nat) (I : Nat → Nat → Int32) (g : Gho) : Prop :=
  QR K L R I (gm g) (gss g) (gln g) ∧ mI I 12 = allT (gm g) ∧ TpR I (gT g) (ge g) ∧ I 287 12 = w (gfl g) ∧ PM I (gn g) (gPs g) ∧ I 287 3 = w (gb g) ∧ (gb g = 1 → vM (keptI I) = gkm g ∧ mI (keptI I) 12 = allT (gkm g) ∧ RLaw (keptI I) (gks g) (gkl g))
/-- ids not yet given hold no law -/
def Frs (vn : Nat) (K : Nat → Nat) : Prop := ∀ a, vn ≤ a → K a ≠ 3 ∧ K a ≠ 20
/-- the script, the room -/
def IVs (vn vc vw : Nat) (K L : Nat → Nat) (I : Nat → Nat → Int32) (N : Int) (S : Nat → Int32) (ls : Nat) : Prop := (305 ≤ vn ∧ vn ≤ 305 + 2 * N ∧ vc ≤ 400 + 2 * N ∧ vw ≤ 100000 + 410 * N ∧ Frs vn K) ∧ K 78 = 25 ∧ L 78 = ls ∧ ∀ k, I 78 k = S k
def INV (S : Nat → Int32) (ls : Nat) (N : Int) (s : HS) : Prop := ∃ vn vc vw K L R I J g mk nx, s = (((vn, vc, vw, K, L, R), I, J) : HS) ∧ IVg N g ∧ IVc K L R I N g mk nx ∧ IVm K L R I g ∧ IVs vn vc vw K L I N S ls
/-- what stands between the class's call and the reference's -/
def Mid (S : Nat → Int32) (ls : Nat) (s : HS) : Prop := s.1.2.2.2.1 78 = 25 ∧ s.1.2.2.2.2.1 78 = ls ∧ (∀ k, s.2.1 78 k = S k) ∧ s.1.2.2.2.1 79 = 11 ∧ s.1.2.2.2.1 287 = 12 ∧ s.1.2.2.2.1 304 = 21 ∧ s.1.2.2.2.2.1 304 = 1
/-- a step through a wrapper -/
def StW (S : Nat → Int32) (ls : Nat) (N : Int) (s : HS) (a b : HS → Option Res) : Prop := ∃ c v s1 s2, a s = some (.inl (some (.int c)), s1) ∧ Mid S ls s1 ∧ b s1 = some (.inl (some (.int v)), s2) ∧ s2.2.1 287 0 = c ∧ (c = w 0 → s2.2.2 304 0 = v.toInt64) ∧ INV S ls (N + 1) s2
/-- a step of two like answers -/
def StD (S : Nat → Int32) (ls : Nat) (N : Int) (s : HS) (a b : HS → Option Res) : Prop := ∃ v s1 s2, a s = some (.inl (some (.int v)), s1) ∧ Mid S ls s1 ∧ b s1 = some (.inl (some (.int v)), s2) ∧ INV S ls (N + 1) s2
def StV (S : Nat → Int32) (ls : Nat) (N : Int) (s : HS) (a b : HS → Option Res) : Prop := ∃ s1 s2, a s = some (.inl none, s1) ∧ Mid S ls s1 ∧ b s1 = some (.inl none, s2) ∧ INV S ls (N + 1) s2
theorem IVg_mono {N N' : Int} {g : Gho} (h : N ≤ N') (x : IVg N g) : IVg N' g := ⟨GD_mono h x.1, fun j a b => GD_mono h (x.2.1 j a b), x.2.2.1, fun y => GD_mono h (x.2.2.2.1 y), x.2.2.2.2⟩
theorem IVc_mono {K L : Nat → Nat} {R : Nat → Nat → Nat} {I : Nat → Nat → Int32} {N N' : Int} {g : Gho} {mk nx : Int} (h : N ≤ N') (x : IVc K L R I N g mk nx) : IVc K L R I N' g mk nx := ⟨x.1, by have := x.2.1; omega, x.2.2⟩
/-- the class's side where its ids keep their cells -/
theorem IVc_f {K L : Nat → Nat} {R : Nat → Nat → Nat} {I I' : Nat → Nat → Int32} {N : Int} {g : Gho} {mk nx : Int} (h : ∀ a k, a < 287 ∨ 305 ≤ a → I' a k = I a k) (x : IVc K L R I N g mk nx) : IVc K L R I' N g mk nx := by
  obtain ⟨x1, x2, x3, x4, x5, x6, ⟨x7, x8⟩, ⟨x9, y1⟩, y2, y3, y4⟩ := x
  obtain ⟨z1, z2, z3, z4, z5, z6, ⟨ss', ln', z7⟩, z8⟩ := id x1
  have hO : OddsI I' mk := by
    obtain ⟨u1, u2', u3⟩ := z8
    exact ⟨by rw [h _ _ (by omega)]; exact u1, u2', fun c hc => by rw [h _ _ (by omega)]; exact u3 c hc⟩
  have hv : vS I' 91 = gm g := by rw [vS_f' (fun a k u1 u2 u3 => h _ _ (by omega))]; exact z4
  refine ⟨⟨z1, z2, Wd_f' (fun a q => h _ _ (by omega)) z3, hv, z5, ALaw_f z6 (fun a k q => h a k (by omega)) rfl, ⟨ss', ln', AimOK_f z7 (fun a k q => h a k (by omega))⟩, hO⟩, x2, SWA_f (fun a k q => h a k (by omega)) x3, Tp_f (fun a k q => h a k (by omega)) x4, by rw [h _ _ (by omega)]; exact x5, PX_f (fun a k p q => h a k (by omega)) x6, ⟨x7, Wd_f' (fun a q => h _ _ (by omega)) x8⟩, ⟨x9, Wd_f' (fun a q => h _ _ (by omega)) y1⟩, by rw [h _ _ (by omega)]; exact y2, fun q => ?_, y4⟩
  · obtain ⟨q1, q2⟩ := y3 q
    refine ⟨?_, ALaw_f q2 (fun a k q => h a k (by omega)) rfl⟩
    rw [← q1]
    exact vS_f' (fun a k u1 u2 u3 => h _ _ (by omega))
/-- the reference's side where its ids keep their cells -/
theorem IVm_f {K L : Nat → Nat} {R : Nat → Nat → Nat} {I I' : Nat → Nat → Int32} {g : Gho} (h : ∀ a k, a ≤ 77 ∨ (288 ≤ a ∧ a < 293) ∨ (a = 287 ∧ (k = 3 ∨ k = 6 ∨ k = 8 ∨ k = 12)) → I' a k = I a k) (h15 : I' 287 15 = w 0 ∨ I' 287 15 = w 1) (x : IVm K L R I g) : IVm K L R I' g := by
  obtain ⟨⟨z1, z2, z3, z4, z5, z6⟩, x2, x3, x4, x5, x6, x7⟩ := x
  have e12 : mI I' 12 = mI I 12 := by unfold mI; rw [h _ _ (by omega)]
  refine ⟨⟨z1, SWA_f (fun a k q => h a k (by omega)) z2, RLaw_f (fun k q => h _ _ (by omega)) z3, by rw [vM_f (fun k => h _ _ (by omega))]; exact z4, z5, h15⟩, by rw [e12]; exact x2, ?_, by rw [h _ _ (by omega)]; exact x4, PM_f ⟨fun k => h _ _ (by omega), h _ _ (by omega), h _ _ (by omega), h _ _ (by omega)⟩ x5, by rw [h _ _ (by omega)]; exact x6, fun q => ?_⟩
  · obtain ⟨t1', t2', t3', t4'⟩ := x3
    exact ⟨by rw [h _ _ (by omega)]; exact t1', t2', t3', fun k a b => by rw [h _ _ (by omega)]; exact t4' k a b⟩
  · obtain ⟨q1, q2, q3⟩ := x7 q
    have ek : ∀ k, keptI I' 288 k = keptI I 288 k := fun k => by
      show I' 289 k = I 289 k
      exact h _ _ (by omega)
    refine ⟨by rw [vM_f ek]; exact q1, ?_, RLaw_f (fun k _ => ek k) q3⟩
    rw [← q2]
    unfold mI
    rw [ek]
theorem IVm_r {K L : Nat → Nat} {R R' : Nat → Nat → Nat} {I : Nat → Nat → Int32} {g : Gho} (h : ∀ a k, 287 ≤ a → R' a k = R a k) (x : IVm K L R I g) : IVm K L R' I g := by
  obtain ⟨⟨z1, z2⟩, x2⟩ := x
  refine ⟨⟨?_, z2⟩, x2⟩
  unfold MSH at z1 ⊢
  simp (disch := omega) only [h]
  exact z1
/-- the class's side after a query -/
theorem IVc_x {K L : Nat → Nat} {R R' : Nat → Nat → Nat} {I I' : Nat → Nat → Int32} {N : Int} {g : Gho} {mk mk' nx : Int} (hC' : CQ K L R' I' (gm g) (gss g) (gln g) mk') (hmk : mk' ≤ mk + 5000) (h : FY I I') (hr : RY R R') (h115 : Wd I' 115) (x : IVc K L R I N g mk nx) : IVc K L R' I' (N + 1) g mk' nx := by
  obtain ⟨x1, x2, x3, x4, x5, x6, ⟨x7, x8⟩, ⟨x9, y1⟩, y2, y3, y4⟩ := x
  refine ⟨hC', by omega, SWA_f (fun a k q => h a k (by omega) (by omega) (by omega) (by omega)) x3, Tp_f (fun a k q => h a k (by omega) (by omega) (by omega) (by omega)) x4, by rw [h _ _ (by omega) (by omega) (by omega) (by omega)]; exact x5, PX_r (fun a k q => hr a k (by omega) (by omega)) (PX_f (fun a k p q => h a k (by omega) (by omega) (by omega) (by omega)) x6), ⟨SHq_y (by omega) hr x7, Wd_f' (fun a q => h _ _ (by omega) (by omega) (by omega) (by omega)) x8⟩, ⟨SHq_y (by omega) hr x9, h115⟩, by rw [h _ _ (by omega) (by omega) (by omega) (by omega)]; exact y2, fun q => ?_, y4⟩
  obtain ⟨q1, q2⟩ := y3 q
  have l1 := q2.2.1.1
  refine ⟨?_, ?_⟩
  · rw [← q1]
    exact vS_f' (fun a k u1 u2 u3 => h _ _ (by omega) (by omega) (by omega) (by omega))
  · rw [hr 103 10 (by omega) (by omega)]
    exact ALaw_f q2 (fun a k q => h a k (by omega) (by omega) (by omega) (by omega)) (hr _ _ (by omega) (by omega))
theorem IVs_mono {vn vc vw vn' vc' vw' : Nat} {K L : Nat → Nat} {I I' : Nat → Nat → Int32} {N : Int} {S : Nat → Int32} {ls : Nat} (x : IVs vn vc vw K L I N S ls) (hn : vn' = vn ∧ vc' ≤ vc + 2 ∧ vw' ≤ vw + 410) (hI : ∀ k, I' 78 k = I 78 k) : IVs vn' vc' vw' K L I' (N + 1) S ls := by
  obtain ⟨⟨a1, a2, a3, a4, a5⟩, b, c, e⟩ := x
  have hn1 := hn.1
  subst hn1
  exact ⟨⟨a1, by omega, by omega, by omega, a5⟩, b, c, fun k => by rw [hI]; exact e k⟩
