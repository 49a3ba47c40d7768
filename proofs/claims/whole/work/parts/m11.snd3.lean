/-! SOUNDNESS OF A STEP, the third part: arrays and fields -/
section SND
variable {G : GP} {y d : Nat} {p : Program} {l : Launch} {e : Env} {R : Room} {s : State} {m : MethodId} {args : Array Value} {below : List Frame} {meth : Method} {c : Code} {Q : State → Prop} {n0 c0 w0 : Nat} {ad0 : Nat → Nat} {o : Option Value ⊕ Nat} {τ : HS} {M : Nat → DI} {wp : Nat → Nat}
theorem RelH.put {σ σ1 : HS} {ad : Nat → Nat} {H H1 : Heap} (h : RelH txT G σ ad H) (hw : wfSx txT (gL G) (gX G) σ1) (hn : hN σ1 = hN σ) {a : Nat} (h1 : 79 ≤ a) (h2 : a < hN σ) (ho : ∀ o, o ≠ a → ent G.2.1 σ1 ad o = ent G.2.1 σ ad o) {en : va_E} (he : ent G.2.1 σ1 ad a = en)
    (hP1 : va_P (gD G) vwCl ((wsL G.2.1 σ ad).set (a - 79) (ad a, en)) H1) (hD1 : va_D (gAx G) ((wsL G.2.1 σ ad).set (a - 79) (ad a, en))) : RelH txT G σ1 ad H1 := by
  rw [wsL_set (σ' := σ1) hn h1 h2 ho he] at hP1 hD1
  exact ⟨hw, hP1, hD1, h.2.2.2⟩
theorem u2_ne {α : Type} {f : Nat → Nat → α} {o k a : Nat} {v : α} (h : a ≠ o) : u2 f o k v a = f a := by
  funext b
  unfold u2
  rw [if_neg (fun q => h q.1)]
theorem wfSx.sI {tx : Nat → List Int32} {L : Nat} {xs : Nat → Int32} {σ : HS} (h : wfSx tx L xs σ) {a j : Nat} {x : Int32} (ha : 79 ≤ a) : wfSx tx L xs (sI σ a j x) := by
  obtain ⟨h1, h2, h3, h4, h5, h6, h7, h8, h9, h10⟩ := h
  refine ⟨h1, h2, h3, h4, h5, h6, h7, fun k k1 k2 => ⟨(h8 k k1 k2).1, fun i hi => ?_⟩, h9, fun i hi => ?_⟩
  · show u2 (hI σ) a j x k i = _
    rw [u2_ne (by omega)]
    exact (h8 k k1 k2).2 i hi
  · show u2 (hI σ) a j x 78 i = _
    rw [u2_ne (by omega)]
    exact h10 i hi
theorem wfSx.sJ {tx : Nat → List Int32} {L : Nat} {xs : Nat → Int32} {σ : HS} (h : wfSx tx L xs σ) {a j : Nat} {x : Int64} : wfSx tx L xs (sJ σ a j x) := h
theorem wfSx.sR {tx : Nat → List Int32} {L : Nat} {xs : Nat → Int32} {σ : HS} (h : wfSx tx L xs σ) {a j v : Nat} (hv : v < hN σ) : wfSx tx L xs (sR σ a j v) := by
  obtain ⟨h1, h2, h3, h4, h5, h6, h7, h8⟩ := h
  refine ⟨h1, h2, h3, h4, h5, h6, fun q i => ?_, h8⟩
  show u2 (hR σ) a j v q i < hN σ
  unfold u2
  split
  · exact hv
  · exact h7 q i
theorem flds_set {σ σ1 : HS} {ad : Nat → Nat} {k a f : Nat} {v : Value} (hf : f < nf k) (h : ∀ j, j ≠ f → (if isRf k j = true then va_rf (rfo ad (hR σ1 a j)) else Value.int (hI σ1 a j)) = (if isRf k j = true then va_rf (rfo ad (hR σ a j)) else Value.int (hI σ a j))) (hv : (if isRf k f = true then va_rf (rfo ad (hR σ1 a f)) else Value.int (hI σ1 a f)) = v) : flds σ1 ad k a = (flds σ ad k a).set f v := by
  refine List.ext_getElem? fun j => ?_
  by_cases hj : j < nf k
  · rw [flds_at hj]
    by_cases hjf : j = f
    · subst hjf
      rw [List.getElem?_set_self (by unfold flds; simp; exact hj), hv]
    · rw [List.getElem?_set_ne (Ne.symm hjf), flds_at hj, h j hjf]
  · rw [List.getElem?_eq_none (by unfold flds; simp; omega), List.getElem?_eq_none (by unfold flds; simp; omega)]

set_option maxHeartbeats 1000000 in
theorem sd_baload {k : KK} {i : Nat} {ls st : List Value} {σ : HS} {cl : CL} {pc : Nat} {ps : List Nat} {c1 : Int32} (B : Bse G y d p l R s m args meth c) (KS : KSt G y p l e R s m args below meth c Q n0 c0 w0 ad0 M o τ k) (hM : M i = (pc, .baload, ps, c1)) (hok : okI y M wp i = true) (h : stepG cl k (pc, .baload, ps, c1) i ls st σ = some (o, τ)) : Go G y p l e R s m args below meth c Q n0 c0 w0 ad0 M i ls st σ := by
  intro ad H locs cells slots S I
  obtain ⟨hx, hb, hml, hown, hts, hE, hnm, hrt, hlk, htab, hst, hRf, hRl⟩ := B
  unfold okI at hok
  rw [hM] at hok ⊢
  dsimp only at hok ⊢
  obtain ⟨hd, hn⟩ := dcI_ok hok hM
  obtain ⟨j, r1, e1, h1⟩ := s1i_inv h
  obtain ⟨a, r, e2, h2⟩ := s1r_inv h1
  clear h h1
  subst e2; subst e1
  obtain ⟨hc, h⟩ := cond_inv h2
  clear h2
  rw [Bool.and_eq_true] at hc
  have hk := of_decide_eq_true hc.1
  have R0 := I.2.2.2.1
  obtain ⟨a1, a2, hw⟩ := R0.cell hk (by unfold kOK; omega)
  rw [ent_22 hk] at hw
  show W p l e R s m args below meth c H locs cells slots Q (F0 m pc S (.int j :: rz ad (.ref a) :: r.map (rz ad)))
  rw [rz_ref1 (refne R0 hk (by omega))]
  refine va_zald hx hb hE.1 R0.2.1 (a - 79) 2 hw rfl (inb_vp hc.2) hd ?_
  rw [← hn]
  exact (KS _ _ _ _ h).2 _ _ _ _ _ _ (I.tl.tl.cons trivial rfl)
set_option maxHeartbeats 1000000 in
theorem sd_laload {k : KK} {i : Nat} {ls st : List Value} {σ : HS} {cl : CL} {pc : Nat} {ps : List Nat} {c1 : Int32} (B : Bse G y d p l R s m args meth c) (KS : KSt G y p l e R s m args below meth c Q n0 c0 w0 ad0 M o τ k) (hM : M i = (pc, .laload, ps, c1)) (hok : okI y M wp i = true) (h : stepG cl k (pc, .laload, ps, c1) i ls st σ = some (o, τ)) : Go G y p l e R s m args below meth c Q n0 c0 w0 ad0 M i ls st σ := by
  intro ad H locs cells slots S I
  obtain ⟨hx, hb, hml, hown, hts, hE, hnm, hrt, hlk, htab, hst, hRf, hRl⟩ := B
  unfold okI at hok
  rw [hM] at hok ⊢
  dsimp only at hok ⊢
  obtain ⟨hd, hn⟩ := dcI_ok hok hM
  obtain ⟨j, r1, e1, h1⟩ := s1i_inv h
  obtain ⟨a, r, e2, h2⟩ := s1r_inv h1
  clear h h1
  subst e2; subst e1
  obtain ⟨hc, h⟩ := cond_inv h2
  clear h2
  rw [Bool.and_eq_true] at hc
  have hk := of_decide_eq_true hc.1
  have R0 := I.2.2.2.1
  obtain ⟨a1, a2, hw⟩ := R0.cell hk (by unfold kOK; omega)
  rw [ent_21 hk] at hw
  show W p l e R s m args below meth c H locs cells slots Q (F0 m pc S (.int j :: rz ad (.ref a) :: r.map (rz ad)))
  rw [rz_ref1 (refne R0 hk (by omega))]
  refine va_lald hx hb hE.1 R0.2.1 (a - 79) 1 hw rfl (inb_vp hc.2) hd ?_
  rw [← hn]
  exact (KS _ _ _ _ h).2 _ _ _ _ _ _ (I.tl.tl.cons trivial rfl)
set_option maxHeartbeats 1000000 in
theorem sd_aaload {k : KK} {i : Nat} {ls st : List Value} {σ : HS} {cl : CL} {pc : Nat} {ps : List Nat} {c1 : Int32} (B : Bse G y d p l R s m args meth c) (KS : KSt G y p l e R s m args below meth c Q n0 c0 w0 ad0 M o τ k) (hM : M i = (pc, .aaload, ps, c1)) (hok : okI y M wp i = true) (h : stepG cl k (pc, .aaload, ps, c1) i ls st σ = some (o, τ)) : Go G y p l e R s m args below meth c Q n0 c0 w0 ad0 M i ls st σ := by
  intro ad H locs cells slots S I
  obtain ⟨hx, hb, hml, hown, hts, hE, hnm, hrt, hlk, htab, hst, hRf, hRl⟩ := B
  unfold okI at hok
  rw [hM] at hok ⊢
  dsimp only at hok ⊢
  obtain ⟨hd, hn⟩ := dcI_ok hok hM
  obtain ⟨j, r1, e1, h1⟩ := s1i_inv h
  obtain ⟨a, r, e2, h2⟩ := s1r_inv h1
  clear h h1
  subst e2; subst e1
  obtain ⟨hc, h⟩ := cond_inv h2
  clear h2
  rw [Bool.and_eq_true] at hc
  have hk := of_decide_eq_true hc.1
  have R0 := I.2.2.2.1
  obtain ⟨a1, a2, hw⟩ := R0.cell hk (by unfold kOK; omega)
  rw [ent_23 hk] at hw
  show W p l e R s m args below meth c H locs cells slots Q (F0 m pc S (.int j :: rz ad (.ref a) :: r.map (rz ad)))
  rw [rz_ref1 (refne R0 hk (by omega))]
  refine va_aldq hx hb hE.1 R0.2.1 (a - 79) 3 hw rfl (inb_vp hc.2) hd ?_
  rw [← hn]
  exact (KS _ _ _ _ h).2 _ _ _ _ _ _ (I.tl.tl.cons (R0.1.2.2.2.2.2.2.1 _ _) rfl)
set_option maxHeartbeats 1000000 in
theorem sd_iaload {k : KK} {i : Nat} {ls st : List Value} {σ : HS} {cl : CL} {pc : Nat} {ps : List Nat} {c1 : Int32} (B : Bse G y d p l R s m args meth c) (KS : KSt G y p l e R s m args below meth c Q n0 c0 w0 ad0 M o τ k) (hM : M i = (pc, .iaload, ps, c1)) (hok : okI y M wp i = true) (h : stepG cl k (pc, .iaload, ps, c1) i ls st σ = some (o, τ)) : Go G y p l e R s m args below meth c Q n0 c0 w0 ad0 M i ls st σ := by
  intro ad H locs cells slots S I
  obtain ⟨hx, hb, hml, hown, hts, hE, hnm, hrt, hlk, htab, hst, hRf, hRl⟩ := B
  unfold okI at hok
  rw [hM] at hok ⊢
  dsimp only at hok ⊢
  rw [Bool.and_eq_true] at hok
  obtain ⟨hd, hn⟩ := dcI_ok hok.1 hM
  obtain ⟨cc, ps', e9, h9⟩ := pcnd_inv h
  clear h
  subst e9
  have h := h9
  clear h9
  obtain ⟨j, r1, e1, h1⟩ := s1i_inv h
  obtain ⟨a, r, e2, h2⟩ := s1r_inv h1
  clear h h1
  subst e2; subst e1
  obtain ⟨hc, h⟩ := cond_inv h2
  clear h2
  rw [Bool.and_eq_true] at hc
  have hk := of_decide_eq_true hc.1
  have R0 := I.2.2.2.1
  show W p l e R s m args below meth c H locs cells slots Q (F0 m pc S (.int j :: rz ad (.ref a) :: r.map (rz ad)))
  have hcc : cc = 20 ∨ cc = 25 := by
    have h2 := hok.2
    split at h2
    · rename_i hq; cases hq; exact Or.inl rfl
    · rename_i hq; cases hq; exact Or.inr rfl
    · cases h2
  rcases hcc with rfl | rfl
  · obtain ⟨a1, a2, hw⟩ := R0.cell hk (by unfold kOK; omega)
    rw [ent_20 hk] at hw
    rw [rz_ref1 (refne R0 hk (by omega))]
    refine va_iald hx hb hE.1 R0.2.1 (a - 79) 0 hw rfl (inb_vp hc.2) hd ?_
    rw [← hn]
    exact (KS _ _ _ _ h).2 _ _ _ _ _ _ (I.tl.tl.cons trivial rfl)
  · have ha : a = 78 := by
      obtain ⟨w1, w2, w3, w4, w5, w6, -⟩ := R0.1
      rcases Nat.lt_or_ge a 78 with q | q
      · by_cases a0 : a = 0
        · subst a0; rw [w2] at hk; omega
        · rw [w3 a (by omega) (by omega)] at hk; omega
      · by_cases a8 : a = 78
        · exact a8
        · rcases Nat.lt_or_ge a (hN σ) with q2 | q2
          · have := w5 a (by omega) q2
            rw [hk] at this
            unfold kOK at this
            omega
          · rw [w6 a q2] at hk; omega
    subst ha
    obtain ⟨e1, e2, e3, e4, e5, e6, e7, e8, e9, e10, e11, e12⟩ := hE
    have hv := inb_vp hc.2
    rw [R0.1.2.2.2.2.2.2.2.2.1] at hv
    rw [rz_ref1 (by omega), R0.2.2.2 78 (by omega)]
    refine va_sld hx hb e9 e10 e11 I.2.2.2.2.1 hv hd ?_
    have hlt : j.toNatClampNeg < gL G := Nat.not_le.mp fun q => hv (Or.inr q)
    have q1 : hI σ 78 j.toNatClampNeg = gX G j.toNatClampNeg := R0.1.2.2.2.2.2.2.2.2.2 _ hlt
    rw [← q1, ← hn]
    exact (KS _ _ _ _ h).2 _ _ _ _ _ _ (I.tl.tl.cons trivial rfl)
set_option maxHeartbeats 1000000 in
theorem sd_arraylength {k : KK} {i : Nat} {ls st : List Value} {σ : HS} {cl : CL} {pc : Nat} {ps : List Nat} {c1 : Int32} (B : Bse G y d p l R s m args meth c) (KS : KSt G y p l e R s m args below meth c Q n0 c0 w0 ad0 M o τ k) (hM : M i = (pc, .arraylength, ps, c1)) (hok : okI y M wp i = true) (h : stepG cl k (pc, .arraylength, ps, c1) i ls st σ = some (o, τ)) : Go G y p l e R s m args below meth c Q n0 c0 w0 ad0 M i ls st σ := by
  intro ad H locs cells slots S I
  obtain ⟨hx, hb, hml, hown, hts, hE, hnm, hrt, hlk, htab, hst, hRf, hRl⟩ := B
  unfold okI at hok
  rw [hM] at hok ⊢
  dsimp only at hok ⊢
  rw [Bool.and_eq_true] at hok
  obtain ⟨hd, hn⟩ := dcI_ok hok.1 hM
  obtain ⟨cc, ps', e9, h9⟩ := pcnd_inv h
  clear h
  subst e9
  have h := h9
  clear h9
  obtain ⟨a, r, e2, h2⟩ := s1r_inv h
  clear h
  subst e2
  obtain ⟨hc, h⟩ := cond_inv h2
  clear h2
  have hk := of_decide_eq_true hc
  have R0 := I.2.2.2.1
  show W p l e R s m args below meth c H locs cells slots Q (F0 m pc S (rz ad (.ref a) :: r.map (rz ad)))
  have hcc : cc = 20 ∨ cc = 23 ∨ cc = 25 := by
    have h2 := hok.2
    split at h2
    · rename_i hq; cases hq; exact Or.inl rfl
    · rename_i hq; cases hq; exact Or.inr (Or.inl rfl)
    · rename_i hq; cases hq; exact Or.inr (Or.inr rfl)
    · cases h2
  rcases hcc with rfl | rfl | rfl
  · obtain ⟨a1, a2, hw⟩ := R0.cell hk (by unfold kOK; omega)
    rw [ent_20 hk] at hw
    rw [rz_ref1 (refne R0 hk (by omega))]
    refine va_alen hx hb hE.1 R0.2.1 (a - 79) 0 hw (ty := .int) rfl rfl hd ?_
    rw [← hn]
    exact (KS _ _ _ _ h).2 _ _ _ _ _ _ (I.tl.cons trivial rfl)
  · obtain ⟨a1, a2, hw⟩ := R0.cell hk (by unfold kOK; omega)
    rw [ent_23 hk] at hw
    rw [rz_ref1 (refne R0 hk (by omega))]
    refine va_alen hx hb hE.1 R0.2.1 (a - 79) 3 hw (ty := .object RX9) rfl rfl hd ?_
    rw [← hn]
    exact (KS _ _ _ _ h).2 _ _ _ _ _ _ (I.tl.cons trivial rfl)
  · have ha : a = 78 := by
      obtain ⟨w1, w2, w3, w4, w5, w6, -⟩ := R0.1
      rcases Nat.lt_or_ge a 78 with q | q
      · by_cases a0 : a = 0
        · subst a0; rw [w2] at hk; omega
        · rw [w3 a (by omega) (by omega)] at hk; omega
      · by_cases a8 : a = 78
        · exact a8
        · rcases Nat.lt_or_ge a (hN σ) with q2 | q2
          · have := w5 a (by omega) q2
            rw [hk] at this
            unfold kOK at this
            omega
          · rw [w6 a q2] at hk; omega
    subst ha
    obtain ⟨e1, e2, e3, e4, e5, e6, e7, e8, e9, e10, e11, e12⟩ := hE
    rw [rz_ref1 (by omega), R0.2.2.2 78 (by omega)]
    refine va_slen hx hb e9 e10 e11 I.2.2.2.2.1 hd ?_
    have q1 : hL σ 78 = gL G := R0.1.2.2.2.2.2.2.2.2.1
    rw [← q1, ← hn]
    exact (KS _ _ _ _ h).2 _ _ _ _ _ _ (I.tl.cons trivial rfl)
set_option maxHeartbeats 1000000 in
theorem sd_iastore {k : KK} {i : Nat} {ls st : List Value} {σ : HS} {cl : CL} {pc : Nat} {ps : List Nat} {c1 : Int32} (B : Bse G y d p l R s m args meth c) (KS : KSt G y p l e R s m args below meth c Q n0 c0 w0 ad0 M o τ k) (hM : M i = (pc, .iastore, ps, c1)) (hok : okI y M wp i = true) (h : stepG cl k (pc, .iastore, ps, c1) i ls st σ = some (o, τ)) : Go G y p l e R s m args below meth c Q n0 c0 w0 ad0 M i ls st σ := by
  intro ad H locs cells slots S I
  obtain ⟨hx, hb, hml, hown, hts, hE, hnm, hrt, hlk, htab, hst, hRf, hRl⟩ := B
  unfold okI at hok
  rw [hM] at hok ⊢
  dsimp only at hok ⊢
  obtain ⟨hd, hn⟩ := dcI_ok hok hM
  obtain ⟨x, r2, e0, h1⟩ := s1i_inv h
  obtain ⟨j, r1, e1, h2⟩ := s1i_inv h1
  obtain ⟨a, r, e2, h3⟩ := s1r_inv h2
  clear h h1 h2
  subst e2; subst e1; subst e0
  obtain ⟨hc, h⟩ := cond_inv h3
  clear h3
  rw [Bool.and_eq_true] at hc
  have hk := of_decide_eq_true hc.1
  have hj := hc.2
  have R0 := I.2.2.2.1
  obtain ⟨a1, a2, hw⟩ := R0.cell hk (by unfold kOK; omega)
  rw [ent_20 hk] at hw
  have hf : u2 (hI σ) a j.toNatClampNeg x a = upd (hI σ a) j.toNatClampNeg x := by
    funext b
    unfold u2 upd
    simp
  have he : ent G.2.1 (sI σ a j.toNatClampNeg x) ad a = .inl (G.2.1.1, hL σ a, (fun f => Sum.inl f) (upd (hI σ a) j.toNatClampNeg x)) := by
    rw [ent_20 (σ := sI σ a j.toNatClampNeg x) hk]
    exact congrArg (fun f => Sum.inl (G.2.1.1, hL σ a, Sum.inl f)) hf
  show W p l e R s m args below meth c H locs cells slots Q (F0 m pc S (.int x :: .int j :: rz ad (.ref a) :: r.map (rz ad)))
  rw [rz_ref1 (refne R0 hk (by omega))]
  refine va_iast hx hb hE.1 R0.2.1 R0.2.2.1 I.2.2.2.2.1 (a - 79) 0 hw rfl (inb_vp hj) hd (fun H1 locs1 hP1 hD1 hS1 => ?_)
  rw [← hn]
  exact (KS _ _ _ _ h).2 _ _ _ _ _ _ ⟨I.1, I.2.1, I.tl.tl.tl.2.2.1, R0.put (σ1 := sI σ a j.toNatClampNeg x) (R0.1.sI a1) rfl a1 a2 (fun q hq => ent_congr rfl rfl (u2_ne hq) rfl (fun _ => rfl)) he hP1 hD1, hS1, I.2.2.2.2.2⟩
set_option maxHeartbeats 1000000 in
theorem sd_lastore {k : KK} {i : Nat} {ls st : List Value} {σ : HS} {cl : CL} {pc : Nat} {ps : List Nat} {c1 : Int32} (B : Bse G y d p l R s m args meth c) (KS : KSt G y p l e R s m args below meth c Q n0 c0 w0 ad0 M o τ k) (hM : M i = (pc, .lastore, ps, c1)) (hok : okI y M wp i = true) (h : stepG cl k (pc, .lastore, ps, c1) i ls st σ = some (o, τ)) : Go G y p l e R s m args below meth c Q n0 c0 w0 ad0 M i ls st σ := by
  intro ad H locs cells slots S I
  obtain ⟨hx, hb, hml, hown, hts, hE, hnm, hrt, hlk, htab, hst, hRf, hRl⟩ := B
  unfold okI at hok
  rw [hM] at hok ⊢
  dsimp only at hok ⊢
  obtain ⟨hd, hn⟩ := dcI_ok hok hM
  obtain ⟨x, r2, e0, h1⟩ := s1l_inv h
  obtain ⟨j, r1, e1, h2⟩ := s1i_inv h1
  obtain ⟨a, r, e2, h3⟩ := s1r_inv h2
  clear h h1 h2
  subst e2; subst e1; subst e0
  obtain ⟨hc, h⟩ := cond_inv h3
  clear h3
  rw [Bool.and_eq_true] at hc
  have hk := of_decide_eq_true hc.1
  have hj := hc.2
  have R0 := I.2.2.2.1
  obtain ⟨a1, a2, hw⟩ := R0.cell hk (by unfold kOK; omega)
  rw [ent_21 hk] at hw
  have hf : u2 (hJ σ) a j.toNatClampNeg x a = vp_updL (hJ σ a) j.toNatClampNeg x := by
    funext b
    unfold u2 vp_updL
    simp
  have he : ent G.2.1 (sJ σ a j.toNatClampNeg x) ad a = .inl (G.2.1.2.1, hL σ a, (fun f => Sum.inr (Sum.inl f)) (vp_updL (hJ σ a) j.toNatClampNeg x)) := by
    rw [ent_21 (σ := sJ σ a j.toNatClampNeg x) hk]
    exact congrArg (fun f => Sum.inl (G.2.1.2.1, hL σ a, Sum.inr (Sum.inl f))) hf
  show W p l e R s m args below meth c H locs cells slots Q (F0 m pc S (.long x :: .int j :: rz ad (.ref a) :: r.map (rz ad)))
  rw [rz_ref1 (refne R0 hk (by omega))]
  refine va_last hx hb hE.1 R0.2.1 R0.2.2.1 I.2.2.2.2.1 (a - 79) 1 hw rfl (inb_vp hj) hd (fun H1 locs1 hP1 hD1 hS1 => ?_)
  rw [← hn]
  exact (KS _ _ _ _ h).2 _ _ _ _ _ _ ⟨I.1, I.2.1, I.tl.tl.tl.2.2.1, R0.put (σ1 := sJ σ a j.toNatClampNeg x) (R0.1.sJ ) rfl a1 a2 (fun q hq => ent_congr rfl rfl rfl (u2_ne hq) (fun _ => rfl)) he hP1 hD1, hS1, I.2.2.2.2.2⟩
set_option maxHeartbeats 1000000 in
theorem sd_bastore {k : KK} {i : Nat} {ls st : List Value} {σ : HS} {cl : CL} {pc : Nat} {ps : List Nat} {c1 : Int32} (B : Bse G y d p l R s m args meth c) (KS : KSt G y p l e R s m args below meth c Q n0 c0 w0 ad0 M o τ k) (hM : M i = (pc, .bastore, ps, c1)) (hok : okI y M wp i = true) (h : stepG cl k (pc, .bastore, ps, c1) i ls st σ = some (o, τ)) : Go G y p l e R s m args below meth c Q n0 c0 w0 ad0 M i ls st σ := by
  intro ad H locs cells slots S I
  obtain ⟨hx, hb, hml, hown, hts, hE, hnm, hrt, hlk, htab, hst, hRf, hRl⟩ := B
  unfold okI at hok
  rw [hM] at hok ⊢
  dsimp only at hok ⊢
  obtain ⟨hd, hn⟩ := dcI_ok hok hM
  obtain ⟨x, r2, e0, h1⟩ := s1i_inv h
  obtain ⟨j, r1, e1, h2⟩ := s1i_inv h1
  obtain ⟨a, r, e2, h3⟩ := s1r_inv h2
  clear h h1 h2
  subst e2; subst e1; subst e0
  obtain ⟨hc, h⟩ := cond_inv h3
  clear h3
  rw [Bool.and_eq_true, Bool.and_eq_true] at hc
  have hk := of_decide_eq_true hc.1.1
  have hj := hc.1.2
  have hb01 := hc.2
  rw [Bool.or_eq_true, decide_eq_true_eq, decide_eq_true_eq] at hb01
  have hnr : vp_nar .boolean x = x := by rcases hb01 with rfl | rfl <;> decide +kernel
  have R0 := I.2.2.2.1
  obtain ⟨a1, a2, hw⟩ := R0.cell hk (by unfold kOK; omega)
  rw [ent_22 hk] at hw
  have hf : u2 (hI σ) a j.toNatClampNeg x a = upd (hI σ a) j.toNatClampNeg x := by
    funext b
    unfold u2 upd
    simp
  have he : ent G.2.1 (sI σ a j.toNatClampNeg x) ad a = .inl (G.2.1.2.2.1, hL σ a, (fun f => Sum.inl f) (upd (hI σ a) j.toNatClampNeg x)) := by
    rw [ent_22 (σ := sI σ a j.toNatClampNeg x) hk]
    exact congrArg (fun f => Sum.inl (G.2.1.2.2.1, hL σ a, Sum.inl f)) hf
  show W p l e R s m args below meth c H locs cells slots Q (F0 m pc S (.int x :: .int j :: rz ad (.ref a) :: r.map (rz ad)))
  rw [rz_ref1 (refne R0 hk (by omega))]
  refine va_zast hx hb hE.1 R0.2.1 R0.2.2.1 I.2.2.2.2.1 (a - 79) 2 hw rfl (inb_vp hj) hd (fun H1 locs1 hP1 hD1 hS1 => ?_)
  rw [hnr] at hP1 hD1
  rw [← hn]
  exact (KS _ _ _ _ h).2 _ _ _ _ _ _ ⟨I.1, I.2.1, I.tl.tl.tl.2.2.1, R0.put (σ1 := sI σ a j.toNatClampNeg x) (R0.1.sI a1) rfl a1 a2 (fun q hq => ent_congr rfl rfl (u2_ne hq) rfl (fun _ => rfl)) he hP1 hD1, hS1, I.2.2.2.2.2⟩
set_option maxHeartbeats 1000000 in
theorem sd_aastore {k : KK} {i : Nat} {ls st : List Value} {σ : HS} {cl : CL} {pc : Nat} {ps : List Nat} {c1 : Int32} (B : Bse G y d p l R s m args meth c) (KS : KSt G y p l e R s m args below meth c Q n0 c0 w0 ad0 M o τ k) (hM : M i = (pc, .aastore, ps, c1)) (hok : okI y M wp i = true) (h : stepG cl k (pc, .aastore, ps, c1) i ls st σ = some (o, τ)) : Go G y p l e R s m args below meth c Q n0 c0 w0 ad0 M i ls st σ := by
  intro ad H locs cells slots S I
  obtain ⟨hx, hb, hml, hown, hts, hE, hnm, hrt, hlk, htab, hst, hRf, hRl⟩ := B
  unfold okI at hok
  rw [hM] at hok ⊢
  dsimp only at hok ⊢
  obtain ⟨hd, hn⟩ := dcI_ok hok hM
  obtain ⟨x, r2, e0, h1⟩ := s1r_inv h
  obtain ⟨j, r1, e1, h2⟩ := s1i_inv h1
  obtain ⟨a, r, e2, h3⟩ := s1r_inv h2
  clear h h1 h2
  subst e2; subst e1; subst e0
  obtain ⟨hc, h⟩ := cond_inv h3
  clear h3
  rw [Bool.and_eq_true, Bool.and_eq_true] at hc
  have hk := of_decide_eq_true hc.1.1
  have hj := hc.1.2
  have hkx := of_decide_eq_true hc.2
  have R0 := I.2.2.2.1
  obtain ⟨a1, a2, hw⟩ := R0.cell hk (by unfold kOK; omega)
  obtain ⟨x1, x2, hwx⟩ := R0.cell hkx (by unfold kOK; omega)
  rw [ent_23 hk] at hw
  rw [ent_c hkx (by omega)] at hwx
  have hx0 := refne R0 hkx (by omega)
  have hf : (fun b => rfo ad (u2 (hR σ) a j.toNatClampNeg x a b)) = va_up (fun j => rfo ad (hR σ a j)) j.toNatClampNeg (some (ad x)) := by
    funext b
    unfold u2 va_up
    by_cases hb2 : b = j.toNatClampNeg
    · simp only [hb2, and_self, if_true]
      unfold rfo
      rw [if_neg hx0]
    · simp [hb2]
  have he : ent G.2.1 (sR σ a j.toNatClampNeg x) ad a = .inl (G.2.1.2.2.2, hL σ a, .inr (.inr (.inr (.inr (va_up (fun j => rfo ad (hR σ a j)) j.toNatClampNeg (some (ad x))))))) := by
    rw [ent_23 (σ := sR σ a j.toNatClampNeg x) hk]
    exact congrArg (fun f => Sum.inl (G.2.1.2.2.2, hL σ a, Sum.inr (Sum.inr (Sum.inr (Sum.inr f))))) hf
  show W p l e R s m args below meth c H locs cells slots Q (F0 m pc S (rz ad (.ref x) :: .int j :: rz ad (.ref a) :: r.map (rz ad)))
  rw [rz_ref1 (refne R0 hk (by omega)), rz_ref1 hx0]
  refine va_astq (r := (RX9, TX9, 19)) hx hb hE.1 R0.2.1 R0.2.2.1 I.2.2.2.2.1 (a - 79) 3 (x - 79) 9 hw rfl hwx rfl (inb_vp hj) hd (fun H1 locs1 hP1 hD1 hS1 => ?_)
  rw [← hn]
  exact (KS _ _ _ _ h).2 _ _ _ _ _ _ ⟨I.1, I.2.1, I.tl.tl.tl.2.2.1, R0.put (σ1 := sR σ a j.toNatClampNeg x) (R0.1.sR x2) rfl a1 a2 (fun q hq => ent_congr rfl rfl rfl rfl (fun b => by
      show rfo ad (u2 (hR σ) a j.toNatClampNeg x q b) = _
      rw [u2_ne hq])) he hP1 hD1, hS1, I.2.2.2.2.2⟩
end SND
