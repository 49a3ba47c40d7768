/-! SOUNDNESS OF A STEP, the sixth part: Math, copies, Object's constructor, a lookup switch -/
section SND
variable {G : GP} {y d : Nat} {p : Program} {l : Launch} {e : Env} {R : Room} {s : State} {m : MethodId} {args : Array Value} {below : List Frame} {meth : Method} {c : Code} {Q : State → Prop} {n0 c0 w0 : Nat} {ad0 : Nat → Nat} {o : Option Value ⊕ Nat} {τ : HS} {M : Nat → DI} {wp : Nat → Nat}
theorem LTg_p {p : Nat} {w : Cond} (h : wdI p w = true) : w ∈ LTg := wdI_ok h
theorem lm_max : Cond.static Lib.Math.max.name ∈ LTg ∧ Cond.code Lib.Math.max.name Lib.Math.max.code 2 (some .int) ∈ LTg := ⟨wdI_ok (p := 768) (by decide +kernel), wdI_ok (p := 769) (by decide +kernel)⟩
theorem lm_min : Cond.static Lib.Math.min.name ∈ LTg ∧ Cond.code Lib.Math.min.name Lib.Math.min.code 2 (some .int) ∈ LTg := ⟨wdI_ok (p := 593) (by decide +kernel), wdI_ok (p := 594) (by decide +kernel)⟩
theorem lm_abs : Cond.static Lib.Math.abs.name ∈ LTg ∧ Cond.code Lib.Math.abs.name Lib.Math.abs.code 1 (some .int) ∈ LTg := ⟨wdI_ok (p := 616) (by decide +kernel), wdI_ok (p := 617) (by decide +kernel)⟩
theorem lm_math : Cond.initialized "java/lang/Math" ∈ LTg := wdI_ok (p := 145) (by decide +kernel)
theorem lm_obj : Cond.instanceMethod Lib.objectInit ∈ LTg ∧ Cond.code Lib.objectInit ⟨#[0xb1]⟩ 1 none ∈ LTg := ⟨wdI_ok (p := 167) (by decide +kernel), wdI_ok (p := 168) (by decide +kernel)⟩
theorem lm_cpy : Cond.native arraycopyName ∈ LTg ∧ Cond.static arraycopyName ∈ LTg ∧ Cond.initialized "java/lang/System" ∈ LTg := ⟨wdI_ok (p := 597) (by decide +kernel), wdI_ok (p := 596) (by decide +kernel), wdI_ok (p := 146) (by decide +kernel)⟩
theorem lm_cln : Cond.sameMethod "[I" "java/lang/Object" "clone" "()Ljava/lang/Object;" ∈ LTg ∧ Cond.native ⟨"java/lang/Object", "clone", "()Ljava/lang/Object;"⟩ ∈ LTg ∧ Cond.instanceMethod ⟨"java/lang/Object", "clone", "()Ljava/lang/Object;"⟩ ∈ LTg ∧ Cond.selects "[I" ⟨"[I", "clone", "()Ljava/lang/Object;"⟩ ⟨"java/lang/Object", "clone", "()Ljava/lang/Object;"⟩ ∈ LTg := ⟨wdI_ok (p := 1000) (by decide +kernel), wdI_ok (p := 1001) (by decide +kernel), wdI_ok (p := 1002) (by decide +kernel), wdI_ok (p := 1003) (by decide +kernel)⟩
theorem lm_cst : Cond.castable "[I" "java/lang/Cloneable" ∈ lw_tbl := by decide +kernel
theorem Inv.room {σ : HS} {ls st : List Value} {ad : Nat → Nat} {H : Heap} {locs : List Loc} {cells slots : Nat} {S : Array Slot} (I : Inv G y s n0 c0 w0 ad0 σ ls st ad H locs cells slots S) (h : sLe σ τ) (hRc : hC τ ≤ c0 + R.cells) (hRs : hW τ ≤ w0 + R.slots) : cells ≤ R.cells ∧ slots ≤ R.slots := by
  have i8 := I.2.2.2.2.2.2.2.1
  have i9 := I.2.2.2.2.2.2.2.2
  have h1 := h.2.1
  have h2 := h.2.2
  omega
theorem Inv.cat {σ : HS} {ls st : List Value} {ad : Nat → Nat} {H : Heap} {locs : List Loc} {cells slots : Nat} {S : Array Slot} (I : Inv G y s n0 c0 w0 ad0 σ ls st ad H locs cells slots S) : ((st.map (rz ad)).map fun v => v.category).sum = catS st := catS_map st I.2.2.1
theorem Inv.len {σ : HS} {ls st : List Value} {ad : Nat → Nat} {H : Heap} {locs : List Loc} {cells slots : Nat} {S : Array Slot} (I : Inv G y s n0 c0 w0 ad0 σ ls st ad H locs cells slots S) : S.size = mMx y := I.1.1.trans I.2.1
theorem tgP_at {pc i : Nat} {ins : Instr} {ps : List Nat} {cc : Int32} (hM : M i = (pc, ins, ps, cc)) {x : Int32} {dd : Nat} {f : Nat → Option Res} {q : Res} {dflt : Int} (hd : (pc : Int) + dflt = ((M dd).1 : Int)) : ∀ (n : Nat) (ts : List Nat) (os : List (Int × Int)), ts.length ≤ n → tgP M i ts os = true → lsw ts x dd f = some q → ∃ t, (pc : Int) + Op.lookupswitch.offset os dflt x.toInt = ((M t).1 : Int) ∧ f t = some q
  | _, [], [], _, _, h => ⟨dd, hd, h⟩
  | 0, _ :: _, _, hn, _, _ => by simp at hn
  | n + 1, v :: t :: ts, o :: os, hn, h, h2 => by
    unfold tgP at h
    rw [Bool.and_eq_true, Bool.and_eq_true, Bool.and_eq_true] at h
    obtain ⟨⟨⟨g1, g2⟩, g3⟩, g4⟩ := h
    have g1 := of_decide_eq_true g1
    have g2 := of_decide_eq_true g2
    have h3 : cond (decide (x = Int32.ofNat v)) (f t) (lsw ts x dd f) = some q := h2
    have hv : (Int32.ofNat v).toInt = (v : Int) := nI_toInt (n := v) (by omega)
    obtain ⟨oa, ob⟩ := o
    by_cases hx : x = Int32.ofNat v
    · rw [decide_eq_true hx] at h3
      refine ⟨t, ?_, h3⟩
      have : Op.lookupswitch.offset ((oa, ob) :: os) dflt x.toInt = ob := by
        unfold Op.lookupswitch.offset
        have e : oa = x.toInt := by rw [hx, hv]; exact g1
        simp [e]
      rw [this]
      exact tgI_ok g3 hM
    · rw [decide_eq_false hx] at h3
      obtain ⟨t2, e1, e2⟩ := tgP_at hM hd n ts os (by simp at hn; omega) g4 h3
      refine ⟨t2, ?_, e2⟩
      have hne : oa ≠ x.toInt := fun e => hx (Int32.toInt_inj.mp (by rw [hv, ← g1]; exact e.symm))
      have : Op.lookupswitch.offset ((oa, ob) :: os) dflt x.toInt = Op.lookupswitch.offset os dflt x.toInt := by
        rw [Op.lookupswitch.offset]
        simp [hne]
      rw [this]
      exact e1
  | n + 1, [_], [], _, h, _ => by cases h
  | n + 1, [_], _ :: _, _, h, _ => by cases h
  | n + 1, _ :: _ :: _, [], _, h, _ => by cases h
  | n + 1, [], _ :: _, _, h, _ => by cases h
  | 0, [], _ :: _, _, h, _ => by cases h

set_option maxHeartbeats 1000000 in
theorem sd_mmax {k : KK} {i : Nat} {ls st : List Value} {σ : HS} {cl : CL} {pc : Nat} {n : Nat} {c1 : Int32} (B : Bse G y d p l R s m args meth c) (hRc : hC τ ≤ c0 + R.cells) (hRs : hW τ ≤ w0 + R.slots) (KS : KSt G y p l e R s m args below meth c Q n0 c0 w0 ad0 M o τ k) (hM : M i = (pc, (.invokestatic n), [0, 0, 8, 0], c1)) (hok : okI y M wp i = true) (h : stepG cl k (pc, (.invokestatic n), [0, 0, 8, 0], c1) i ls st σ = some (o, τ)) : Go G y p l e R s m args below meth c Q n0 c0 w0 ad0 M i ls st σ := by
  intro ad H locs cells slots S I
  obtain ⟨hx, hb, hml, hown, hts, hE, hnm, hrt, hlk, htab, hst, hRf, hRl⟩ := B
  unfold okI at hok
  rw [hM] at hok ⊢
  dsimp only at hok ⊢
  rw [Bool.and_eq_true] at hok
  obtain ⟨hd, hn⟩ := dcI_ok hok.1 hM
  obtain ⟨x, z, r, e1, h1⟩ := s2i_inv h
  clear h
  subst e1
  obtain ⟨hc, h⟩ := cond_inv h1
  clear h1
  have hc := of_decide_eq_true hc
  have K := KS _ _ _ _ h
  obtain ⟨r1, r2⟩ := I.room K.1 hRc hRs
  have hct := I.tl.tl.cat
  refine va_mmax hx hb (by rw [hml, I.len]) hown (hts _ (wdI_ok hok.2)) (hts _ lm_max.1) (hts _ lm_math) (hts _ lm_max.2) (by omega) (by omega) r1 r2 hd ?_
  rw [← hn]
  exact K.2 _ _ _ _ _ _ (I.tl.tl.cons trivial rfl)
set_option maxHeartbeats 1000000 in
theorem sd_mmin {k : KK} {i : Nat} {ls st : List Value} {σ : HS} {cl : CL} {pc : Nat} {n : Nat} {c1 : Int32} (B : Bse G y d p l R s m args meth c) (hRc : hC τ ≤ c0 + R.cells) (hRs : hW τ ≤ w0 + R.slots) (KS : KSt G y p l e R s m args below meth c Q n0 c0 w0 ad0 M o τ k) (hM : M i = (pc, (.invokestatic n), [0, 0, 9, 0], c1)) (hok : okI y M wp i = true) (h : stepG cl k (pc, (.invokestatic n), [0, 0, 9, 0], c1) i ls st σ = some (o, τ)) : Go G y p l e R s m args below meth c Q n0 c0 w0 ad0 M i ls st σ := by
  intro ad H locs cells slots S I
  obtain ⟨hx, hb, hml, hown, hts, hE, hnm, hrt, hlk, htab, hst, hRf, hRl⟩ := B
  unfold okI at hok
  rw [hM] at hok ⊢
  dsimp only at hok ⊢
  rw [Bool.and_eq_true] at hok
  obtain ⟨hd, hn⟩ := dcI_ok hok.1 hM
  obtain ⟨x, z, r, e1, h1⟩ := s2i_inv h
  clear h
  subst e1
  obtain ⟨hc, h⟩ := cond_inv h1
  clear h1
  have hc := of_decide_eq_true hc
  have K := KS _ _ _ _ h
  obtain ⟨r1, r2⟩ := I.room K.1 hRc hRs
  have hct := I.tl.tl.cat
  refine va_mmin hx hb (by rw [hml, I.len]) hown (hts _ (wdI_ok hok.2)) (hts _ lm_min.1) (hts _ lm_math) (hts _ lm_min.2) (by omega) (by omega) r1 r2 hd ?_
  rw [← hn]
  exact K.2 _ _ _ _ _ _ (I.tl.tl.cons trivial rfl)
set_option maxHeartbeats 1000000 in
theorem sd_mabs {k : KK} {i : Nat} {ls st : List Value} {σ : HS} {cl : CL} {pc : Nat} {n : Nat} {c1 : Int32} (B : Bse G y d p l R s m args meth c) (hRc : hC τ ≤ c0 + R.cells) (hRs : hW τ ≤ w0 + R.slots) (KS : KSt G y p l e R s m args below meth c Q n0 c0 w0 ad0 M o τ k) (hM : M i = (pc, (.invokestatic n), [0, 0, 10, 0], c1)) (hok : okI y M wp i = true) (h : stepG cl k (pc, (.invokestatic n), [0, 0, 10, 0], c1) i ls st σ = some (o, τ)) : Go G y p l e R s m args below meth c Q n0 c0 w0 ad0 M i ls st σ := by
  intro ad H locs cells slots S I
  obtain ⟨hx, hb, hml, hown, hts, hE, hnm, hrt, hlk, htab, hst, hRf, hRl⟩ := B
  unfold okI at hok
  rw [hM] at hok ⊢
  dsimp only at hok ⊢
  rw [Bool.and_eq_true] at hok
  obtain ⟨hd, hn⟩ := dcI_ok hok.1 hM
  obtain ⟨x, r, e1, h1⟩ := s1i_inv h
  clear h
  subst e1
  obtain ⟨hc, h⟩ := cond_inv h1
  clear h1
  have hc := of_decide_eq_true hc
  have K := KS _ _ _ _ h
  obtain ⟨r1, r2⟩ := I.room K.1 hRc hRs
  have hct := I.tl.cat
  refine va_mabs hx hb (by rw [hml, I.len]) hown (hts _ (wdI_ok hok.2)) (hts _ lm_abs.1) (hts _ lm_math) (hts _ lm_abs.2) (by omega) (by omega) r1 r2 hd ?_
  rw [← hn]
  exact K.2 _ _ _ _ _ _ (I.tl.cons trivial rfl)
set_option maxHeartbeats 1000000 in
theorem sd_objinit {k : KK} {i : Nat} {ls st : List Value} {σ : HS} {cl : CL} {pc : Nat} {n : Nat} {c1 : Int32} (B : Bse G y d p l R s m args meth c) (hRc : hC τ ≤ c0 + R.cells) (hRs : hW τ ≤ w0 + R.slots) (KS : KSt G y p l e R s m args below meth c Q n0 c0 w0 ad0 M o τ k) (hM : M i = (pc, (.invokespecial n), [0, 0, 8, 0], c1)) (hok : okI y M wp i = true) (h : stepG cl k (pc, (.invokespecial n), [0, 0, 8, 0], c1) i ls st σ = some (o, τ)) : Go G y p l e R s m args below meth c Q n0 c0 w0 ad0 M i ls st σ := by
  intro ad H locs cells slots S I
  obtain ⟨hx, hb, hml, hown, hts, hE, hnm, hrt, hlk, htab, hst, hRf, hRl⟩ := B
  unfold okI at hok
  rw [hM] at hok ⊢
  dsimp only at hok ⊢
  rw [Bool.and_eq_true] at hok
  obtain ⟨hd, hn⟩ := dcI_ok hok.1 hM
  obtain ⟨a, r, e1, h1⟩ := s1r_inv h
  clear h
  subst e1
  obtain ⟨hc, h⟩ := cond_inv h1
  clear h1
  rw [Bool.and_eq_true] at hc
  have hk : ¬ hK σ a = 98 := by simpa using hc.1
  have hc := of_decide_eq_true hc.2
  have ha : a ≠ 0 := fun q => hk (by rw [q]; exact I.2.2.2.1.1.2.1)
  have K := KS _ _ _ _ h
  have hct := I.tl.cat
  show W p l e R s m args below meth c H locs cells slots Q (F0 m pc S (rz ad (.ref a) :: r.map (rz ad)))
  rw [rz_ref1 ha]
  refine W.objInit hx hb hown (hts _ (wdI_ok hok.2)) (hts _ lm_obj.1) (hts _ lm_obj.2) rfl (by rw [hml]; exact I.len) rfl hd (by omega) ?_ ?_
  · show 2 * 0 + ((r.map (rz ad)).map fun v => v.category).sum + 12 ≤ R.locals
    rw [hct]
    omega
  · show W p l e R s m args below meth c H locs cells slots Q (F0 m (pc + 3) S (r.map (rz ad)))
    rw [← hn]
    exact K.2 _ _ _ _ _ _ I.tl
set_option maxHeartbeats 1000000 in
theorem sd_acopy {k : KK} {i : Nat} {ls st : List Value} {σ : HS} {cl : CL} {pc : Nat} {n : Nat} {c1 : Int32} (B : Bse G y d p l R s m args meth c) (hRc : hC τ ≤ c0 + R.cells) (hRs : hW τ ≤ w0 + R.slots) (KS : KSt G y p l e R s m args below meth c Q n0 c0 w0 ad0 M o τ k) (hM : M i = (pc, (.invokestatic n), [0, 0, 11, 0], c1)) (hok : okI y M wp i = true) (h : stepG cl k (pc, (.invokestatic n), [0, 0, 11, 0], c1) i ls st σ = some (o, τ)) : Go G y p l e R s m args below meth c Q n0 c0 w0 ad0 M i ls st σ := by
  intro ad H locs cells slots S I
  obtain ⟨hx, hb, hml, hown, hts, hE, hnm, hrt, hlk, htab, hst, hRf, hRl⟩ := B
  unfold okI at hok
  rw [hM] at hok ⊢
  dsimp only at hok ⊢
  rw [Bool.and_eq_true] at hok
  obtain ⟨hd, hn⟩ := dcI_ok hok.1 hM
  obtain ⟨dp, mm, r1, e1, h1⟩ := s2i_inv h
  obtain ⟨dd, r2, e2, h2⟩ := s1r_inv h1
  obtain ⟨sp, r3, e3, h3⟩ := s1i_inv h2
  obtain ⟨so, r, e4, h4⟩ := s1r_inv h3
  clear h h1 h2 h3
  subst e4; subst e3; subst e2; subst e1
  obtain ⟨hc, h⟩ := cond_inv h4
  clear h4
  simp only [Bool.and_eq_true, decide_eq_true_eq, Bool.not_eq_true', decide_eq_false_iff_not] at hc
  obtain ⟨⟨⟨⟨⟨⟨⟨⟨k1, k2⟩, k3⟩, k4⟩, k5⟩, k6⟩, k7⟩, k8⟩, k9⟩ := hc
  have R0 := I.2.2.2.1
  obtain ⟨a1, a2, hw1⟩ := R0.cell k1 (by unfold kOK; omega)
  obtain ⟨b1, b2, hw2⟩ := R0.cell k2 (by unfold kOK; omega)
  rw [ent_20 k1] at hw1
  rw [ent_20 k2] at hw2
  have K := KS _ _ _ _ h
  have hct := I.tl.tl.tl.tl.tl.cat
  have hnw : nativeFrameWords "java/lang/System" "arraycopy" 5 = 7 := by decide +kernel
  have hoth : ∀ q, q ≠ dd → acpy (hI σ) so sp.toNatClampNeg dd dp.toNatClampNeg mm.toNatClampNeg q = hI σ q := fun q hq => by
    funext b
    unfold acpy
    rw [if_neg (fun z => hq z.1)]
  have hself : acpy (hI σ) so sp.toNatClampNeg dd dp.toNatClampNeg mm.toNatClampNeg dd = va_cpy (hI σ so) (hI σ dd) sp.toNatClampNeg dp.toNatClampNeg mm.toNatClampNeg := by
    funext b
    unfold acpy va_cpy
    simp
  have he : ent G.2.1 (σ.1, acpy (hI σ) so sp.toNatClampNeg dd dp.toNatClampNeg mm.toNatClampNeg, σ.2.2) ad dd = .inl (G.2.1.1, hL σ dd, .inl (va_cpy (hI σ so) (hI σ dd) sp.toNatClampNeg dp.toNatClampNeg mm.toNatClampNeg)) := by
    rw [ent_20 (σ := (σ.1, acpy (hI σ) so sp.toNatClampNeg dd dp.toNatClampNeg mm.toNatClampNeg, σ.2.2)) k2]
    exact congrArg (fun f => Sum.inl (G.2.1.1, hL σ dd, Sum.inl f)) hself
  have hwf : wfSx txT (gL G) (gX G) (σ.1, acpy (hI σ) so sp.toNatClampNeg dd dp.toNatClampNeg mm.toNatClampNeg, σ.2.2) := by
    obtain ⟨w1, w2, w3, w4, w5, w6, w7, w8, w9, w10⟩ := R0.1
    refine ⟨w1, w2, w3, w4, w5, w6, w7, fun k q1 q2 => ⟨(w8 k q1 q2).1, fun j hj => ?_⟩, w9, fun j hj => ?_⟩
    · show acpy (hI σ) so sp.toNatClampNeg dd dp.toNatClampNeg mm.toNatClampNeg k j = _
      rw [hoth k (by omega)]
      exact (w8 k q1 q2).2 j hj
    · show acpy (hI σ) so sp.toNatClampNeg dd dp.toNatClampNeg mm.toNatClampNeg 78 j = _
      rw [hoth 78 (by omega)]
      exact w10 j hj
  show W p l e R s m args below meth c H locs cells slots Q (F0 m pc S (.int mm :: .int dp :: rz ad (.ref dd) :: .int sp :: rz ad (.ref so) :: r.map (rz ad)))
  rw [rz_ref1 (x := so) (refne R0 k1 (by omega)), rz_ref1 (x := dd) (refne R0 k2 (by omega))]
  refine va_copyi hx hb (by rw [hml, I.len]) hown (hts _ (wdI_ok hok.2)) (hts _ lm_cpy.1) (hts _ lm_cpy.2.1) (hts _ lm_cpy.2.2) hE.1 R0.2.1 R0.2.2.1 I.2.2.2.2.1 (so - 79) (dd - 79) 0 0 hw1 hw2 rfl rfl rfl (Int32.not_lt.mpr k4) (Int32.not_lt.mpr k5) (Int32.not_lt.mpr k6) k7 k8 (fun _ _ => rfl) (by omega) (by rw [hnw]; omega) hd (fun H1 locs1 hP1 hD1 hS1 => ?_)
  rw [← hn]
  exact K.2 _ _ _ _ _ _ ⟨I.1, I.2.1, I.tl.tl.tl.tl.tl.2.2.1, R0.put hwf rfl b1 b2 (fun q hq => ent_congr rfl rfl (hoth q hq) rfl (fun _ => rfl)) he hP1 hD1, hS1, I.2.2.2.2.2⟩
set_option maxHeartbeats 1000000 in
theorem sd_clone {k : KK} {i : Nat} {ls st : List Value} {σ : HS} {cl : CL} {pc : Nat} {n : Nat} {c1 : Int32} (B : Bse G y d p l R s m args meth c) (hRc : hC τ ≤ c0 + R.cells) (hRs : hW τ ≤ w0 + R.slots) (KS : KSt G y p l e R s m args below meth c Q n0 c0 w0 ad0 M o τ k) (hM : M i = (pc, (.invokevirtual n), [0, 0, 10, 0], c1)) (hok : okI y M wp i = true) (h : stepG cl k (pc, (.invokevirtual n), [0, 0, 10, 0], c1) i ls st σ = some (o, τ)) : Go G y p l e R s m args below meth c Q n0 c0 w0 ad0 M i ls st σ := by
  intro ad H locs cells slots S I
  obtain ⟨hx, hb, hml, hown, hts, hE, hnm, hrt, hlk, htab, hst, hRf, hRl⟩ := B
  unfold okI at hok
  rw [hM] at hok ⊢
  dsimp only at hok ⊢
  rw [Bool.and_eq_true] at hok
  obtain ⟨hd, hn⟩ := dcI_ok hok.1 hM
  obtain ⟨a, r, e1, h1⟩ := s1r_inv h
  clear h
  subst e1
  obtain ⟨hc, h⟩ := cond_inv h1
  clear h1
  rw [Bool.and_eq_true] at hc
  have hk := of_decide_eq_true hc.1
  have hc := of_decide_eq_true hc.2
  have R0 := I.2.2.2.1
  obtain ⟨a1, a2, hw⟩ := R0.cell hk (by unfold kOK; omega)
  rw [ent_20 hk] at hw
  have K := KS _ _ _ _ h
  have hct := I.tl.cat
  have hcC : hC (hCl σ a) ≤ hC τ := K.1.2.1
  have hcW : hW (hCl σ a) ≤ hW τ := K.1.2.2
  have e1 : hC (hCl σ a) = hC σ + 1 := rfl
  have e2 : hW (hCl σ a) = hW σ + hL σ a := rfl
  have i8 := I.2.2.2.2.2.2.2.1
  have i9 := I.2.2.2.2.2.2.2.2
  show W p l e R s m args below meth c H locs cells slots Q (F0 m pc S (rz ad (.ref a) :: r.map (rz ad)))
  rw [rz_ref1 (refne R0 hk (by omega))]
  refine va_clone hx hb (by rw [hml, I.len]) (ad := "[I") hown (hts _ (wdI_ok hok.2)) (hts _ lm_cln.1) (hts _ lm_cln.2.1) (hts _ lm_cln.2.2.1) (hts _ lm_cln.2.2.2) (hE.2.1 _ lm_cst rfl) hE.1 R0.2.1 R0.2.2.1 I.2.2.2.2.1 hE.2.2.2.2.2.2.2.2.2.2.2 (a - 79) 0 hw (ty := .int) rfl (va_nm_int (hE.1.2 0 _ rfl).2) (fun i v hv => ?_) (by omega) (by omega) (by omega) (by omega) hd (fun q H1 hK1 hP1 hD1 hS1 => ?_)
  · rw [vp_cell_i] at hv
    by_cases hi : i < hL σ a
    · rw [arrV_read _ _ hi] at hv
      cases hv
      rfl
    · rw [Array.getElem?_eq_none (by rw [arrV_size]; omega)] at hv
      cases hv
  · have hR1 : RelH txT G (hCl σ a) (u1 ad (hN σ) q) H1 := R0.push (kd := 20) rfl rfl (by unfold kOK; omega) (fun o ho => u1_ne ho) (fun o ho => u1_ne ho) (fun o ho => u1_ne ho) rfl (by
      rw [ent_20 (σ := hCl σ a) u1_eq]
      show Sum.inl (_, u1 (hL σ) (hN σ) (hL σ a) (hN σ), Sum.inl (u1 (hI σ) (hN σ) (hI σ a) (hN σ))) = _
      rw [u1_eq, u1_eq]) hP1 hD1
    rw [← hn]
    have hgo := K.2 _ _ _ _ _ _ (I.tl.alloc hR1 rfl rfl rfl hS1)
    rw [alloc_st I.tl] at hgo
    exact hgo
set_option maxHeartbeats 1000000 in
theorem sd_lookupswitch {k : KK} {i : Nat} {ls st : List Value} {σ : HS} {cl : CL} {pc : Nat} {dd : Int} {os : Array (Int × Int)} {ps : List Nat} {c1 : Int32} (B : Bse G y d p l R s m args meth c) (KS : KSt G y p l e R s m args below meth c Q n0 c0 w0 ad0 M o τ k) (hM : M i = (pc, (.lookupswitch dd os), ps, c1)) (hok : okI y M wp i = true) (h : stepG cl k (pc, (.lookupswitch dd os), ps, c1) i ls st σ = some (o, τ)) : Go G y p l e R s m args below meth c Q n0 c0 w0 ad0 M i ls st σ := by
  intro ad H locs cells slots S I
  obtain ⟨hx, hb, hml, hown, hts, hE, hnm, hrt, hlk, htab, hst, hRf, hRl⟩ := B
  unfold okI at hok
  rw [hM] at hok ⊢
  dsimp only at hok ⊢
  rw [Bool.and_eq_true] at hok
  have hd := dcE_ok hok.1 hM
  obtain ⟨t, ts, e9, h1⟩ := pcnd_inv h
  clear h
  subst e9
  obtain ⟨x, r, e1, h⟩ := s1i_inv h1
  clear h1
  subst e1
  have h2 := hok.2
  dsimp only at h2
  rw [Bool.and_eq_true, Bool.and_eq_true] at h2
  obtain ⟨⟨g1, g2⟩, g3⟩ := h2
  obtain ⟨t2, q1, q2⟩ := tgP_at hM (tgI_ok g1 hM) ts.length ts os.toList (Nat.le_refl _) g2 h
  refine lv_lookup hx hb hd g3 rfl q1 ?_
  exact (KS _ _ _ _ q2).2 _ _ _ _ _ _ I.tl
end SND
