/-! steps: law -/
section STL
variable {vn vc vw : Nat} {K L : Nat → Nat} {R : Nat → Nat → Nat} {I : Nat → Nat → Int32} {J : Nat → Nat → Int64}
variable {S : Nat → Int32} {ls : Nat}
theorem Tp_0 {I : Nat → Nat → Int32} {T : Int → Int} (h : I 82 1 = w 0) : Tp I T 0 := ⟨h, by omega, fun k a b => by omega, fun k a b => by omega⟩
theorem TpR_0 {I : Nat → Nat → Int32} {T : Int → Int} (h : I 287 8 = w 0) : TpR I T 0 := ⟨h, by omega, fun k a b => by omega, fun k a b => by omega⟩
theorem PM_0 {I : Nat → Nat → Int32} {P : Int → Int → Int} (h : I 287 6 = w 0) : PM I 0 P := ⟨⟨h, by omega, by omega⟩, fun j a b => by omega⟩
theorem vM_cq {I I' : Nat → Nat → Int32} (h : ∀ k, k < 592 → k ≠ 1 → k ≠ 2 → I' 288 k = I 288 k) (hB : BD (vM I)) : vM I' = vM I ∧ mI I' 12 = mI I 12 := by
  obtain ⟨c3, c4, c5, c13, c14⟩ := BD_mI hB
  have e : ∀ z, 0 ≤ z → z < 592 → z ≠ 1 → z ≠ 2 → mI I' z = mI I z := fun z h1 h2 h3 h4 => by
    unfold mI
    rw [h _ (by unfold ix; omega) (by unfold ix; omega) (by unfold ix; omega)]
  refine ⟨?_, e 12 (by omega) (by omega) (by omega) (by omega)⟩
  funext z
  unfold vM
  rw [e 3 (by omega) (by omega) (by omega) (by omega), e 4 (by omega) (by omega) (by omega) (by omega), e 5 (by omega) (by omega) (by omega) (by omega), e 13 (by omega) (by omega) (by omega) (by omega), e 14 (by omega) (by omega) (by omega) (by omega)]
  by_cases c1 : z = 0 ∨ (3 ≤ z ∧ z ≤ 11) ∨ (13 ≤ z ∧ z ≤ 15) ∨ (20 ≤ z ∧ z < 20 + 5 * mI I 3) ∨ (70 ≤ z ∧ z < 70 + 3 * mI I 4) ∨ (94 ≤ z ∧ z < 94 + 3 * mI I 5) ∨ (112 ≤ z ∧ z < 112 + 4 * mI I 13) ∨ (232 ≤ z ∧ z < 232 + 6 * mI I 14)
  · rw [if_pos c1, if_pos c1, e z (by omega) (by omega) (by omega) (by omega)]
  · rw [if_neg c1, if_neg c1]
theorem SHq_l {K' L' : Nat → Nat} {R' : Nat → Nat → Nat} {q : Nat} (h1 : ∀ a, a < 305 → K' a = K a) (h2 : ∀ a, a < 305 → L' a = L a) (h3 : ∀ a k, a < 305 → (a = 91 → k ≠ 10) → R' a k = R a k) (hq : q + 11 < 305) (gS : SHq K L R q) : SHq K' L' R' q := by
  unfold SHq at gS ⊢
  simp (disch := omega) only [h1, h2, h3]
  exact gS
theorem MSH_l {K' L' : Nat → Nat} {R' : Nat → Nat → Nat} (h1 : ∀ a, a < 305 → K' a = K a) (h2 : ∀ a, a < 305 → L' a = L a) (h3 : ∀ a k, a < 305 → (a = 91 → k ≠ 10) → R' a k = R a k) (gS : MSH K L R) : MSH K' L' R' := by
  unfold MSH at gS ⊢
  simp (disch := omega) only [h1, h2, h3]
  exact gS
def gLaw (g : Gho) (ss : List Int) (ln f n : Int) : Gho := ((gm g, ss, ln), (gT g, 0, f), (n, gPs g), g.2.2.2)
/-- objects below vn stand as they were -/
def KLR (vn : Nat) (K L : Nat → Nat) (R : Nat → Nat → Nat) (K' L' : Nat → Nat) (R' : Nat → Nat → Nat) : Prop := ∀ a, a < vn → K' a = K a ∧ L' a = L a ∧ ∀ k, (a = 91 → k ≠ 10) → R' a k = R a k
theorem ALaw_n {K' L' : Nat → Nat} {R' : Nat → Nat → Nat} {I' : Nat → Nat → Int32} {lid : Nat} {ss : List Int} {ln : Int} (g : ALaw K L R I lid ss ln) (hf : Frs vn K) (hk : ∀ a, a < vn → K' a = K a ∧ L' a = L a) (hr : ∀ a, a < vn → (a < 82 ∨ 305 ≤ a) → R' a 1 = R a 1) (hi : ∀ a k, a < vn → (a < 82 ∨ 305 ≤ a) → K a = 3 ∨ K a = 20 → I' a k = I a k) : ALaw K' L' R' I' lid ss ln ∧ lid < vn := by
  obtain ⟨⟨g1, g2, g3⟩, ⟨g4, g5⟩, ⟨g6, g7, g8⟩, g9, g10, g11⟩ := g
  have l1 : lid < vn := by
    by_cases c : lid < vn
    · exact c
    · exact absurd g1 (hf lid (by omega)).1
  have l2 : R lid 1 < vn := by
    by_cases c : R lid 1 < vn
    · exact c
    · exact absurd g2 (hf _ (by omega)).2
  have er : R' lid 1 = R lid 1 := hr lid l1 g4
  refine ⟨⟨⟨?_, ?_, ?_⟩, ⟨g4, by rw [er]; exact g5⟩, ⟨g6, ?_, g8⟩, fun k hk' => ?_, fun s hs h1 => ?_, g11⟩, l1⟩
  · rw [(hk lid l1).1]; exact g1
  · rw [er, (hk _ l2).1]; exact g2
  · rw [er, (hk _ l2).2]; exact g3
  · rw [hi _ _ l1 g4 (Or.inl g1)]; exact g7
  · rw [er, hi _ _ l2 g5 (Or.inr g2)]; exact g9 k hk'
  · rw [hi _ _ l1 g4 (Or.inl g1)]; exact g10 s hs h1
theorem IVc_l {K' L' : Nat → Nat} {R' : Nat → Nat → Nat} {I' : Nat → Nat → Int32} {N : Int} {g : Gho} {mk nx f n ln : Int} {ss : List Int} (x : IVc K L R I N g mk nx) (hv : 305 ≤ vn) (hf : Frs vn K) (hk : KLR vn K L R K' L' R') (hi : FCl vn I I') (hLw : ALaw K' L' R' I' (R' 91 10) ss ln) (h12 : I' 79 12 = w f) (h82 : I' 82 1 = w 0) (h127 : I' 127 2 = w n) (hn : n = 0 ∨ n = gn g ∧ R' 91 10 = R 91 10) : IVc K' L' R' I' N (gLaw g ss ln f n) mk nx := by
  obtain ⟨x1, x2, x3, x4, x5, x6, ⟨x7, x8⟩, ⟨x9, y1⟩, y2, y3, y4⟩ := x
  obtain ⟨z1, z2, z3, z4, z5, z6, ⟨ss', ln', z7⟩, z8⟩ := x1
  have k79 : K 79 = 11 := (XSH_e z1).1
  have h1 : ∀ a, a < 305 → K' a = K a := fun a q => (hk a (by omega)).1
  have h2 : ∀ a, a < 305 → L' a = L a := fun a q => (hk a (by omega)).2.1
  have h3 : ∀ a k, a < 305 → (a = 91 → k ≠ 10) → R' a k = R a k := fun a k q r => (hk a (by omega)).2.2 k r
  have hk' : ∀ a, a < vn → K' a = K a ∧ L' a = L a := fun a q => ⟨(hk a q).1, (hk a q).2.1⟩
  have hr' : ∀ a, a < vn → (a < 82 ∨ 305 ≤ a) → R' a 1 = R a 1 := fun a q _ => (hk a q).2.2 1 (by omega)
  have hiL : ∀ a k, a < vn → (a < 82 ∨ 305 ≤ a) → K a = 3 ∨ K a = 20 → I' a k = I a k := fun a k q1 q2 q3 => hi a k q1 (by omega) (by omega) (by omega) (by omega) (fun e => by rw [e, k79] at q3; omega) (by omega)
  have hi' : ∀ a k, a < 305 → ¬(84 ≤ a ∧ a ≤ 86) → a ≠ 89 → a ≠ 82 → a ≠ 88 → (a = 79 → k ≠ 12) → (a = 127 → k ≠ 2) → I' a k = I a k := fun a k q1 q2 q3 q4 q5 q6 q7 => hi a k (by omega) q2 q3 (by omega) (by omega) q6 q7
  have hO : OddsI I' mk := by
    obtain ⟨u1, u2', u3⟩ := z8
    exact ⟨by rw [hi' _ _ (by omega) (by omega) (by omega) (by omega) (by omega) (by omega) (by omega)]; exact u1, u2', fun c hc => by rw [hi' _ _ (by omega) (by omega) (by omega) (by omega) (by omega) (by omega) (by omega)]; exact u3 c hc⟩
  have hA : AimOK K' L' R' I' ss' ln' := by
    obtain ⟨p1, p2, p3⟩ := z7
    refine ⟨by rw [h3 _ _ (by omega) (by omega)]; exact (ALaw_n p1 hf hk' hr' hiL).1, ?_, fun q => ?_⟩
    · rw [hi' _ _ (by omega) (by omega) (by omega) (by omega) (by omega) (by omega) (by omega)]; exact p2
    · have e274 : (fun n => I' 274 (ix n)) = fun n => I 274 (ix n) := by
        funext n
        exact hi' _ _ (by omega) (by omega) (by omega) (by omega) (by omega) (by omega) (by omega)
      rw [e274]
      intro k k1 k2
      rw [hi' _ _ (by omega) (by omega) (by omega) (by omega) (by omega) (by omega) (by omega)]
      exact p3 (by rw [← hi' 273 5 (by omega) (by omega) (by omega) (by omega) (by omega) (by omega) (by omega)]; exact q) k k1 k2
  have hvS : ∀ q, 91 ≤ q → q + 10 < 273 → (q + 10 < 127 ∨ 127 < q) → vS I' q = vS I q := fun q q1 q2 q3 => vS_f' (fun a k u1 u2 u3 => hi' _ _ (by omega) (by omega) (by omega) (by omega) (by omega) (by omega) (by omega))
  have hWd : ∀ q, 91 ≤ q → q + 10 < 273 → (q + 10 < 127 ∨ 127 < q) → Wd I q → Wd I' q := fun q q1 q2 q3 u => Wd_f' (fun a q => hi' _ _ (by omega) (by omega) (by omega) (by omega) (by omega) (by omega) (by omega)) u
  obtain ⟨p1, p2, p3, p4⟩ := x6
  have hnb : 0 ≤ n ∧ n ≤ 12 := by omega
  refine ⟨⟨XSH_l h1 h2 h3 z1, SHq_l h1 h2 h3 (by omega) z2, hWd 91 (by omega) (by omega) (by omega) z3, (hvS 91 (by omega) (by omega) (by omega)).trans z4, z5, hLw, ⟨ss', ln', hA⟩, hO⟩, x2, fun r hr => ?_, Tp_0 h82, h12, ⟨?_, ⟨h127, hnb⟩, fun i q => ?_, fun j a b => ?_⟩, ⟨SHq_l h1 h2 h3 (by omega) x7, hWd 103 (by omega) (by omega) (by omega) x8⟩, ⟨SHq_l h1 h2 h3 (by omega) x9, hWd 115 (by omega) (by omega) (by omega) y1⟩, ?_, fun q => ?_, ?_⟩
  · have r77 : r ≤ 77 := (tW_r hr).2
    obtain ⟨q1, q2, q3⟩ := x3 r hr
    exact ⟨by rw [h1 _ (by omega)]; exact q1, by rw [h2 _ (by omega)]; exact q2, fun i hi0 => by rw [hi' _ _ (by omega) (by omega) (by omega) (by omega) (by omega) (by omega) (by omega)]; exact q3 i hi0⟩
  · rw [hi' _ _ (by omega) (by omega) (by omega) (by omega) (by omega) (by omega) (by omega)]; exact p1
  · obtain ⟨q1, q2, q3⟩ := p3 i q
    exact ⟨by rw [h3 _ _ (by omega) (by omega)]; exact q1, SHq_l h1 h2 h3 (by omega) q2, hWd _ (by omega) (by omega) (by omega) q3⟩
  · have b' : j < n := b
    rcases hn with e | ⟨e, er⟩
    · omega
    · obtain ⟨q1, q2⟩ := p4 j a (by omega)
      have e1 : 129 ≤ slN nx j ∧ slN nx j + 12 ≤ 273 := by unfold slN; omega
      exact ⟨(hvS _ (by omega) (by omega) (by omega)).trans q1, by rw [h3 _ _ (by omega) (by omega), er]; exact q2⟩
  · rw [hi' _ _ (by omega) (by omega) (by omega) (by omega) (by omega) (by omega) (by omega)]; exact y2
  · obtain ⟨q1, q2⟩ := y3 q
    exact ⟨(hvS 103 (by omega) (by omega) (by omega)).trans q1, by rw [h3 _ _ (by omega) (by omega)]; exact (ALaw_n q2 hf hk' hr' hiL).1⟩
  · rw [h1 _ (by omega), h2 _ (by omega)]; exact y4
theorem IVm_k {K' L' : Nat → Nat} {R' : Nat → Nat → Nat} {I' : Nat → Nat → Int32} {g : Gho} (hv : 305 ≤ vn) (hk : KLR vn K L R K' L' R') (hi : ∀ a k, a ≤ 77 ∨ (287 ≤ a ∧ a < 293) → I' a k = I a k) (x : IVm K L R I g) : IVm K' L' R' I' g := by
  have h1 : ∀ a, a < 305 → K' a = K a := fun a q => (hk a (by omega)).1
  have h2 : ∀ a, a < 305 → L' a = L a := fun a q => (hk a (by omega)).2.1
  have h3 : ∀ a k, a < 305 → (a = 91 → k ≠ 10) → R' a k = R a k := fun a k q r => (hk a (by omega)).2.2 k r
  have y := IVm_f (I' := I') (fun a k q => hi a k (by omega)) (by rw [hi _ _ (by omega)]; exact x.1.2.2.2.2.2) x
  obtain ⟨⟨y1, y2, y3⟩, y4⟩ := y
  refine ⟨⟨MSH_l h1 h2 h3 y1, fun r hr => ?_, y3⟩, y4⟩
  have r77 : r ≤ 77 := (tW_r hr).2
  obtain ⟨q1, q2, q3⟩ := y2 r hr
  exact ⟨by rw [h1 _ (by omega)]; exact q1, by rw [h2 _ (by omega)]; exact q2, q3⟩
theorem IVm_l {I' : Nat → Nat → Int32} {g : Gho} {ss : List Int} {ln f n : Int} (x : IVm K L R I g) (hF : FRl I I') (hR' : RLaw I' ss ln) (h12 : I' 287 12 = w f) (h8 : I' 287 8 = w 0) (hn : n = 0 ∧ I' 287 6 = w 0 ∨ n = gn g ∧ I' 287 6 = I 287 6 ∧ ∀ k, I' 288 k = I 288 k) : IVm K L R I' (gLaw g ss ln f n) := by
  obtain ⟨⟨z1, z2, z3, z4, z5, z6⟩, x2, x3, x4, x5, x6, x7⟩ := x
  obtain ⟨v1, v2⟩ := vM_cq (I := I) (I' := I') (fun k a b c => hF _ _ (by omega) (by omega) (by omega)) (by rw [z4]; exact z5)
  refine ⟨⟨z1, SWA_f (fun a k q => hF a k (by omega) (by omega) (by omega)) z2, hR', v1.trans z4, z5, by rw [hF _ _ (by omega) (by omega) (by omega)]; exact z6⟩, v2.trans x2, TpR_0 h8, h12, ?_, by rw [hF _ _ (by omega) (by omega) (by omega)]; exact x6, fun q => ?_⟩
  · rcases hn with ⟨e1, e2⟩ | ⟨e1, e2, e3⟩
    · rw [e1]
      exact PM_0 e2
    · rw [e1]
      exact PM_f ⟨fun k => hF _ _ (by omega) (by omega) (by omega), e3 _, e3 _, e2⟩ x5
  · obtain ⟨q1, q2, q3⟩ := x7 q
    have ek : ∀ k, keptI I' 288 k = keptI I 288 k := fun k => by
      show I' 289 k = I 289 k
      exact hF _ _ (by omega) (by omega) (by omega)
    refine ⟨by rw [vM_f ek]; exact q1, ?_, RLaw_f (fun k _ => ek k) q3⟩
    show mI (keptI I') 12 = allT (gkm g)
    rw [← q2]
    unfold mI
    rw [ek]
theorem IVg_l {N : Int} {g : Gho} {ss : List Int} {ln f n : Int} (x : IVg N g) (hf : -1 ≤ f ∧ f ≤ 400) (hn : n = 0 ∨ n = gn g) : IVg N (gLaw g ss ln f n) := by
  obtain ⟨x1, x2, x3, x4, x5⟩ := x
  refine ⟨x1, fun j a b => ?_, x3, x4, hf⟩
  have b' : j < n := b
  exact x2 j a (by omega)
theorem st_340 {d : Nat} {N : Int} {s : HS} (z : INV S ls N s) : StW S ls N s (ev PR (d + 40) 340 [.ref 79, .ref 304]) (ev PR (d + 40) 257 [.ref 287]) := by
  obtain ⟨vn, vc, vw, K, L, R, I, J, g, mk, nx, rfl, xg, xc, xm, xs⟩ := z
  have gj := xc.2.2.2.2.2.2.2.2.2.2
  obtain ⟨k1, k2⟩ := gj
  obtain ⟨z1', z2', z3, z4, z5, z6, z7⟩ := id xc.1
  have hX := z1'
  have hS := z2'
  have hTp := xc.2.2.2.1
  have hTr := xm.2.2.1
  have hA := xc.2.2.1
  have hv := xs.1.1
  have hf := xs.1.2.2.2.2
  cases hp : pLaw (gT g) (ge g) with
  | error f =>
    obtain ⟨I1, e1, a1, a2, a3, a4⟩ := sp_161f (d := d + 14) (vn := vn) (vc := vc) (vw := vw) (J := J) hX hTp hA hp
    have hk : KLR vn K L R K L R := fun a _ => ⟨rfl, rfl, fun _ _ => rfl⟩
    have c1 := fun (ff : Int) (q : w f = w ff) => IVc_l (f := ff) (n := gn g) xc hv hf hk a3 (ALaw_n z6 hf (fun _ _ => ⟨rfl, rfl⟩) (fun _ _ _ => rfl) (fun a k q1 q2 q3 => a3 a k q1 (by omega) (by omega) (by omega) (by omega) (fun e => by rw [e, (XSH_e hX).1] at q3; omega) (by omega))).1 (a1.trans q) a2 (a4.trans xc.2.2.2.2.2.1.2.1.1) (Or.inr ⟨rfl, rfl⟩)
    have m1 : IVm K L R I1 g := IVm_k hv hk (fun a k q => a3 a k (by omega) (by omega) (by omega) (by omega) (by omega) (by omega) (by omega)) xm
    obtain ⟨I2, e2, b1, b2, b3, b4, b5, b6, b7⟩ := (sp_257 (d := d + 7) (vn := vn) (vc := vc + 1) (vw := vw + 6) (J := J) m1.1.1 m1.1.2.1 m1.2.2.1 m1.1.2.2.2.2.2).1 f hp
    have c2 := IVc_f (I' := I2) (fun a k q => b6 a k (by omega) (by omega) (by omega)) (c1 f rfl)
    have m2 := IVm_l (n := gn g) m1 b6 (RLaw_f (fun k _ => b7 k) m1.1.2.2.1) b2 b4 (Or.inr ⟨rfl, b5, b7⟩)
    have h78 : ∀ k, I1 78 k = I 78 k := fun k => a3 _ _ (by omega) (by omega) (by omega) (by omega) (by omega) (by omega) (by omega)
    refine ⟨w 1, _, _, _, ?_, ⟨xs.2.1, xs.2.2.1, fun k => (h78 k).trans (xs.2.2.2 k), (XSH_e hX).1, (MSH_e xm.1.1).1, k1, k2⟩, e2, b1, fun q => absurd q (by decide), ⟨vn, vc + 1, vw + 6, K, L, R, I2, J, _, mk, nx, rfl, IVg_mono (by omega) (IVg_l xg (by omega) (Or.inr rfl)), IVc_mono (by omega) c2, m2, IVs_mono xs ⟨rfl, by omega, by omega⟩ (fun k => by rw [b6 _ _ (by omega) (by omega) (by omega), h78])⟩⟩
    rw [eq_340]
    simp (disch := first | assumption | omega | (simp (disch := omega) only [vM_u, vS_u]; first | assumption | omega)) only [hK, hL, hR, hI, hN, sI, hSp, hC, hW, li, lr, ↓cnd_a, ↓cnd_o, ↓cnd_n, ↓cnd_d, ↓z0, ↓z1, ↓z2, y0n, y1i, y2r, y0e, y1e, y2e, wl_0, wl_1, wl_2, wl_3, wl_4, wl_5, wl_6, wl_7, wl_8, wl_9, wl_10, wl_11, wl_12, wl_13, wl_14, wl_15, wl_16, wl_17, wl_18, wl_19, wl_20, wl_21, wl_22, wl_23, wl_24, wl_25, wl_26, wl_27, wl_28, wl_29, wl_30, wl_31, wl_32, wl_33, wl_34, wl_35, wl_36, wl_37, wl_38, wl_39, wl_40, wl_41, wl_42, wl_43, wl_44, wl_45, wl_46, wl_47, wl_48, wl_49, wl_50, wl_51, wl_52, wl_53, wl_54, wl_55, wl_56, wl_57, wl_58, wl_59, wl_60, wl_61, wl_62, wl_63, wl_64, wl_65, wl_66, wl_67, wl_68, wl_69, wl_70, wl_71, wl_72, wl_73, wl_74, wl_75, wl_76, wl_77, wl_78, wl_79, wl_80, wl_81, wl_82, wl_83, wl_84, wl_85, wl_86, wl_87, wl_88, wl_89, wl_90, wl_91, wl_92, wl_93, wl_94, wl_95, wl_96, wl_97, wl_98, wl_99, wl_100, wl_101, wl_102, wl_103, wl_104, wl_105, wl_106, wl_107, wl_108, wl_109, wl_110, wl_111, wl_112, wl_113, wl_114, wl_115, wl_116, wl_117, wl_118, wl_119, wl_120, wl_121, wl_122, wl_123, wl_124, wl_125, wl_126, wl_127, wl_128, wl_129, wl_130, wl_159, wl_160, wl_200, wl_232, wl_255, wl_256, wl_300, wl_359, wl_360, wl_400, wl_592, wl_992, wl_999, wl_1000, wl_1024, wl_3456, wl_6512, wl_7104, wl_10000, wl_11264, wl_12345, wl_32767, wl_1000000000, wl_1103515245, wl_2000000000, w_add, w_sub, w_mul, w_neg, w_lt, w_le, w_eq, w_cl, w_in, w_nat, w_max2, w_min2, w_abs2, iltT, iltF, ileT, ileF, ieqT, ieqF, bv_01, bft, bv_0, bv_1, bv_t, bv_f, cond_true, cond_false, Bool.not_true, Bool.not_false, if_true, if_false, true_or, or_true, true_and, and_true, ↓reduceIte, decide_true, decide_false, reduceCtorEq, u2_s, u2_o, u2_k, u2_u2, Bool.true_or, Bool.or_true, Bool.false_or, Bool.or_false, Bool.and_true, Bool.true_and, Bool.and_false, Bool.false_and, eq_self, not_true_eq_false, not_false_eq_true, and_self, and_true, true_and, false_and, and_false, w_dv, dvm, XSH_e hX, e1]
    all_goals rfl
  | ok r =>
    obtain ⟨K', L', R', I1, J', e1, a1, a2, a3, a4, a5, a6, a7, a8, a9⟩ := sp_161t (d := d + 14) (vn := vn) (vc := vc) (vw := vw) (J := J) hX hS hTp hA hv hp
    have hk : KLR vn K L R K' L' R' := a1
    have c1 := IVc_l (f := -1) (n := 0) xc hv hf hk a7 (by rw [a2]; exact a3) a4 a5 a6 (Or.inl rfl)
    have m1 : IVm K' L' R' I1 g := IVm_k hv hk (fun a k q => a7 a k (by omega) (by omega) (by omega) (by omega) (by omega) (by omega) (by omega)) xm
    have kK : K' 304 = 21 ∧ L' 304 = 1 := by rw [(a1 304 (by omega)).1, (a1 304 (by omega)).2.1]; exact ⟨k1, k2⟩
    obtain ⟨kK1, kK2⟩ := kK
    obtain ⟨I2, e2, b1, b2, b3, b4, b5, b6⟩ := (sp_257 (d := d + 7) (vn := vn + 2) (vc := vc + 2) (vw := vw + 3 + r.2.length) (J := u2 J' 304 0 (w r.1).toInt64) m1.1.1 m1.1.2.1 m1.2.2.1 m1.1.2.2.2.2.2).2 r hp
    have c2 := IVc_f (I' := I2) (fun a k q => b5 a k (by omega) (by omega) (by omega)) c1
    have m2 := IVm_l (n := 0) m1 b5 b6 b2 b3 (Or.inl ⟨rfl, b4⟩)
    have h78 : ∀ k, I1 78 k = I 78 k := fun k => a7 _ _ (by omega) (by omega) (by omega) (by omega) (by omega) (by omega) (by omega)
    obtain ⟨⟨w1, w2, w3, w4, w5⟩, w6, w7, w8⟩ := xs
    have frs : Frs (vn + 2) K' := fun a q => by rw [a9 a q]; exact hf a (by omega)
    refine ⟨w 0, w r.1, _, _, ?_, ⟨by rw [← w6]; exact (a1 78 (by omega)).1, by rw [← w7]; exact (a1 78 (by omega)).2.1, fun k => (h78 k).trans (w8 k), (XSH_e c1.1.1).1, (MSH_e m1.1.1).1, kK1, kK2⟩, e2, b1, fun _ => (by show u2 J' 304 0 _ 304 0 = _; exact u2_s _ _ _ _), ⟨vn + 2, vc + 2, vw + 3 + r.2.length, K', L', R', I2, _, _, mk, nx, rfl, IVg_mono (by omega) (IVg_l xg (by omega) (Or.inl rfl)), IVc_mono (by omega) c2, m2, ⟨⟨by omega, by omega, by omega, by omega, frs⟩, by rw [← w6]; exact (a1 78 (by omega)).1, by rw [← w7]; exact (a1 78 (by omega)).2.1, fun k => by rw [b5 _ _ (by omega) (by omega) (by omega), h78, w8]⟩⟩⟩
    rw [eq_340]
    simp (disch := first | assumption | omega | (simp (disch := omega) only [vM_u, vS_u]; first | assumption | omega)) only [hK, hL, hR, hI, hN, sI, hSp, hC, hW, li, lr, ↓cnd_a, ↓cnd_o, ↓cnd_n, ↓cnd_d, ↓z0, ↓z1, ↓z2, y0n, y1i, y2r, y0e, y1e, y2e, wl_0, wl_1, wl_2, wl_3, wl_4, wl_5, wl_6, wl_7, wl_8, wl_9, wl_10, wl_11, wl_12, wl_13, wl_14, wl_15, wl_16, wl_17, wl_18, wl_19, wl_20, wl_21, wl_22, wl_23, wl_24, wl_25, wl_26, wl_27, wl_28, wl_29, wl_30, wl_31, wl_32, wl_33, wl_34, wl_35, wl_36, wl_37, wl_38, wl_39, wl_40, wl_41, wl_42, wl_43, wl_44, wl_45, wl_46, wl_47, wl_48, wl_49, wl_50, wl_51, wl_52, wl_53, wl_54, wl_55, wl_56, wl_57, wl_58, wl_59, wl_60, wl_61, wl_62, wl_63, wl_64, wl_65, wl_66, wl_67, wl_68, wl_69, wl_70, wl_71, wl_72, wl_73, wl_74, wl_75, wl_76, wl_77, wl_78, wl_79, wl_80, wl_81, wl_82, wl_83, wl_84, wl_85, wl_86, wl_87, wl_88, wl_89, wl_90, wl_91, wl_92, wl_93, wl_94, wl_95, wl_96, wl_97, wl_98, wl_99, wl_100, wl_101, wl_102, wl_103, wl_104, wl_105, wl_106, wl_107, wl_108, wl_109, wl_110, wl_111, wl_112, wl_113, wl_114, wl_115, wl_116, wl_117, wl_118, wl_119, wl_120, wl_121, wl_122, wl_123, wl_124, wl_125, wl_126, wl_127, wl_128, wl_129, wl_130, wl_159, wl_160, wl_200, wl_232, wl_255, wl_256, wl_300, wl_359, wl_360, wl_400, wl_592, wl_992, wl_999, wl_1000, wl_1024, wl_3456, wl_6512, wl_7104, wl_10000, wl_11264, wl_12345, wl_32767, wl_1000000000, wl_1103515245, wl_2000000000, w_add, w_sub, w_mul, w_neg, w_lt, w_le, w_eq, w_cl, w_in, w_nat, w_max2, w_min2, w_abs2, iltT, iltF, ileT, ileF, ieqT, ieqF, bv_01, bft, bv_0, bv_1, bv_t, bv_f, cond_true, cond_false, Bool.not_true, Bool.not_false, if_true, if_false, true_or, or_true, true_and, and_true, ↓reduceIte, decide_true, decide_false, reduceCtorEq, u2_s, u2_o, u2_k, u2_u2, Bool.true_or, Bool.or_true, Bool.false_or, Bool.or_false, Bool.and_true, Bool.true_and, Bool.and_false, Bool.false_and, eq_self, not_true_eq_false, not_false_eq_true, and_self, and_true, true_and, false_and, and_false, w_dv, dvm, sJ, XSH_e hX, e1, kK1, kK2]
    all_goals rfl
end STL
