/-! SOUNDNESS OF A STEP over the machine: the kit's rows, one a kind of instruction -/
section SND
variable {G : GP} {y d : Nat} {p : Program} {l : Launch} {e : Env} {R : Room} {s : State} {m : MethodId} {args : Array Value} {below : List Frame} {meth : Method} {c : Code} {Q : State → Prop} {n0 c0 w0 : Nat} {ad0 : Nat → Nat} {o : Option Value ⊕ Nat} {τ : HS} {M : Nat → DI} {wp : Nat → Nat}
/-- what is fixed in a walk of the method y at depth d -/
def Bse (G : GP) (y d : Nat) (p : Program) (l : Launch) (R : Room) (s : State) (m : MethodId) (args : Array Value) (meth : Method) (c : Code) : Prop :=
  p.tables.exec = Jvm.exec ∧ c.code = mBy y ∧ c.maxLocals = mMx y ∧ s.vm.findClass (mNm y).cls = some m.cls ∧ (∀ w ∈ LTg, w.before args s = true) ∧ EnvOK G s ∧ meth.name = (mNm y).name ∧ meth.sig.returnType = mRt y ∧ meth.locks = false ∧ c.exceptionTable.toList = tableOf (mHh y) ∧ l.stackTraces = false ∧ d * 1 + 20 ≤ R.frames ∧ d * 60 + 300 ≤ R.locals
def Inv (G : GP) (y : Nat) (s : State) (n0 c0 w0 : Nat) (ad0 : Nat → Nat) (σ : HS) (ls st : List Value) (ad : Nat → Nat) (H : Heap) (locs : List Loc) (cells slots : Nat) (S : Array Slot) : Prop :=
  lvR ad (hN σ) S ls ∧ ls.length = mMx y ∧ (∀ v ∈ st, vok (hN σ) v ∧ known v = true) ∧ RelH txT G σ ad H ∧ va_S (gAx G) s.heap H locs ∧ (∀ k, k < n0 → ad k = ad0 k) ∧ n0 ≤ hN σ ∧ c0 + cells = hC σ ∧ w0 + slots = hW σ
theorem Inv.tl {σ : HS} {ls st : List Value} {v : Value} {ad : Nat → Nat} {H : Heap} {locs : List Loc} {cells slots : Nat} {S : Array Slot} (h : Inv G y s n0 c0 w0 ad0 σ ls (v :: st) ad H locs cells slots S) : Inv G y s n0 c0 w0 ad0 σ ls st ad H locs cells slots S :=
  ⟨h.1, h.2.1, fun w hw => h.2.2.1 w (List.mem_cons_of_mem _ hw), h.2.2.2⟩
theorem Inv.cons {σ : HS} {ls st : List Value} {v : Value} {ad : Nat → Nat} {H : Heap} {locs : List Loc} {cells slots : Nat} {S : Array Slot} (h : Inv G y s n0 c0 w0 ad0 σ ls st ad H locs cells slots S) (h1 : vok (hN σ) v) (h2 : known v = true) : Inv G y s n0 c0 w0 ad0 σ ls (v :: st) ad H locs cells slots S :=
  ⟨h.1, h.2.1, fun w hw => by
    rcases List.mem_cons.mp hw with rfl | hw
    · exact ⟨h1, h2⟩
    · exact h.2.2.1 w hw, h.2.2.2⟩
theorem Inv.loc {σ : HS} {ls ls' st : List Value} {ad : Nat → Nat} {H : Heap} {locs : List Loc} {cells slots : Nat} {S S' : Array Slot} (h : Inv G y s n0 c0 w0 ad0 σ ls st ad H locs cells slots S) (h1 : lvR ad (hN σ) S' ls') (h2 : ls'.length = ls.length) : Inv G y s n0 c0 w0 ad0 σ ls' st ad H locs cells slots S' :=
  ⟨h1, h2.trans h.2.1, h.2.2⟩
def Go (G : GP) (y : Nat) (p : Program) (l : Launch) (e : Env) (R : Room) (s : State) (m : MethodId) (args : Array Value) (below : List Frame) (meth : Method) (c : Code) (Q : State → Prop) (n0 c0 w0 : Nat) (ad0 : Nat → Nat) (M : Nat → DI) (i : Nat) (ls st : List Value) (σ : HS) : Prop :=
  ∀ (ad : Nat → Nat) (H : Heap) (locs : List Loc) (cells slots : Nat) (S : Array Slot), Inv G y s n0 c0 w0 ad0 σ ls st ad H locs cells slots S → W p l e R s m args below meth c H locs cells slots Q (F0 m (M i).1 S (st.map (rz ad)))
theorem dcI_ok {i n pc : Nat} {ins : Instr} {ps : List Nat} {c0 : Int32} (h : dcI y M i n = true) (hM : M i = (pc, ins, ps, c0)) : decode (mBy y) pc = .ok (ins, n) ∧ (M (i + 1)).1 = pc + n := by
  unfold dcI at h
  rw [hM, Bool.and_eq_true] at h
  exact ⟨of_decide_eq_true h.1, of_decide_eq_true h.2⟩
theorem dcE_ok {i n pc : Nat} {ins : Instr} {ps : List Nat} {c0 : Int32} (h : dcE y M i n = true) (hM : M i = (pc, ins, ps, c0)) : decode (mBy y) pc = .ok (ins, n) := by
  unfold dcE at h
  rw [hM] at h
  exact of_decide_eq_true h
theorem tgI_ok {i t pc : Nat} {off : Int} {ins : Instr} {ps : List Nat} {c0 : Int32} (h : tgI M i t off = true) (hM : M i = (pc, ins, ps, c0)) : (pc : Int) + off = ((M t).1 : Int) := by
  unfold tgI at h
  rw [hM] at h
  exact of_decide_eq_true h
theorem tgT_ok {i pc : Nat} {off : Int} {ins : Instr} {ps : List Nat} {c0 : Int32} (h : tgT M i off = true) (hM : M i = (pc, ins, ps, c0)) : ∃ t, ps = [t] ∧ (pc : Int) + off = ((M t).1 : Int) := by
  unfold tgT at h
  rw [hM] at h
  rcases ps with _ | ⟨t, _ | ⟨b, r⟩⟩
  · cases h
  · exact ⟨t, rfl, tgI_ok h hM⟩
  · cases h
abbrev KSt (G : GP) (y : Nat) (p : Program) (l : Launch) (e : Env) (R : Room) (s : State) (m : MethodId) (args : Array Value) (below : List Frame) (meth : Method) (c : Code) (Q : State → Prop) (n0 c0 w0 : Nat) (ad0 : Nat → Nat) (M : Nat → DI) (o : Option Value ⊕ Nat) (τ : HS) (k : KK) : Prop :=
  ∀ i ls st σ, k i ls st σ = some (o, τ) → sLe σ τ ∧ Go G y p l e R s m args below meth c Q n0 c0 w0 ad0 M i ls st σ

set_option maxHeartbeats 1000000 in
theorem sd_iadd {k : KK} {i : Nat} {ls st : List Value} {σ : HS} {cl : CL} {pc : Nat} {ps : List Nat} {c1 : Int32} (B : Bse G y d p l R s m args meth c) (KS : KSt G y p l e R s m args below meth c Q n0 c0 w0 ad0 M o τ k) (hM : M i = (pc, .iadd, ps, c1)) (hok : okI y M wp i = true) (h : stepG cl k (pc, .iadd, ps, c1) i ls st σ = some (o, τ)) : Go G y p l e R s m args below meth c Q n0 c0 w0 ad0 M i ls st σ := by
  intro ad H locs cells slots S I
  obtain ⟨hx, hb, hml, hown, hts, hE, hnm, hrt, hlk, htab, hst, hRf, hRl⟩ := B
  unfold okI at hok
  rw [hM] at hok ⊢
  dsimp only at hok ⊢
  obtain ⟨hd, hn⟩ := dcI_ok hok hM
  obtain ⟨x, z, r, rfl, h⟩ := s2i_inv h
  refine lv_iadd hx hb hd ?_
  rw [← hn]
  exact (KS _ _ _ _ h).2 _ _ _ _ _ _ (I.tl.tl.cons trivial rfl)
set_option maxHeartbeats 1000000 in
theorem sd_isub {k : KK} {i : Nat} {ls st : List Value} {σ : HS} {cl : CL} {pc : Nat} {ps : List Nat} {c1 : Int32} (B : Bse G y d p l R s m args meth c) (KS : KSt G y p l e R s m args below meth c Q n0 c0 w0 ad0 M o τ k) (hM : M i = (pc, .isub, ps, c1)) (hok : okI y M wp i = true) (h : stepG cl k (pc, .isub, ps, c1) i ls st σ = some (o, τ)) : Go G y p l e R s m args below meth c Q n0 c0 w0 ad0 M i ls st σ := by
  intro ad H locs cells slots S I
  obtain ⟨hx, hb, hml, hown, hts, hE, hnm, hrt, hlk, htab, hst, hRf, hRl⟩ := B
  unfold okI at hok
  rw [hM] at hok ⊢
  dsimp only at hok ⊢
  obtain ⟨hd, hn⟩ := dcI_ok hok hM
  obtain ⟨x, z, r, rfl, h⟩ := s2i_inv h
  refine lv_isub hx hb hd ?_
  rw [← hn]
  exact (KS _ _ _ _ h).2 _ _ _ _ _ _ (I.tl.tl.cons trivial rfl)
set_option maxHeartbeats 1000000 in
theorem sd_imul {k : KK} {i : Nat} {ls st : List Value} {σ : HS} {cl : CL} {pc : Nat} {ps : List Nat} {c1 : Int32} (B : Bse G y d p l R s m args meth c) (KS : KSt G y p l e R s m args below meth c Q n0 c0 w0 ad0 M o τ k) (hM : M i = (pc, .imul, ps, c1)) (hok : okI y M wp i = true) (h : stepG cl k (pc, .imul, ps, c1) i ls st σ = some (o, τ)) : Go G y p l e R s m args below meth c Q n0 c0 w0 ad0 M i ls st σ := by
  intro ad H locs cells slots S I
  obtain ⟨hx, hb, hml, hown, hts, hE, hnm, hrt, hlk, htab, hst, hRf, hRl⟩ := B
  unfold okI at hok
  rw [hM] at hok ⊢
  dsimp only at hok ⊢
  obtain ⟨hd, hn⟩ := dcI_ok hok hM
  obtain ⟨x, z, r, rfl, h⟩ := s2i_inv h
  refine lv_imul hx hb hd ?_
  rw [← hn]
  exact (KS _ _ _ _ h).2 _ _ _ _ _ _ (I.tl.tl.cons trivial rfl)
set_option maxHeartbeats 1000000 in
theorem sd_iand {k : KK} {i : Nat} {ls st : List Value} {σ : HS} {cl : CL} {pc : Nat} {ps : List Nat} {c1 : Int32} (B : Bse G y d p l R s m args meth c) (KS : KSt G y p l e R s m args below meth c Q n0 c0 w0 ad0 M o τ k) (hM : M i = (pc, .iand, ps, c1)) (hok : okI y M wp i = true) (h : stepG cl k (pc, .iand, ps, c1) i ls st σ = some (o, τ)) : Go G y p l e R s m args below meth c Q n0 c0 w0 ad0 M i ls st σ := by
  intro ad H locs cells slots S I
  obtain ⟨hx, hb, hml, hown, hts, hE, hnm, hrt, hlk, htab, hst, hRf, hRl⟩ := B
  unfold okI at hok
  rw [hM] at hok ⊢
  dsimp only at hok ⊢
  obtain ⟨hd, hn⟩ := dcI_ok hok hM
  obtain ⟨x, z, r, rfl, h⟩ := s2i_inv h
  refine lv_iand hx hb hd ?_
  rw [← hn]
  exact (KS _ _ _ _ h).2 _ _ _ _ _ _ (I.tl.tl.cons trivial rfl)
set_option maxHeartbeats 1000000 in
theorem sd_ior {k : KK} {i : Nat} {ls st : List Value} {σ : HS} {cl : CL} {pc : Nat} {ps : List Nat} {c1 : Int32} (B : Bse G y d p l R s m args meth c) (KS : KSt G y p l e R s m args below meth c Q n0 c0 w0 ad0 M o τ k) (hM : M i = (pc, .ior, ps, c1)) (hok : okI y M wp i = true) (h : stepG cl k (pc, .ior, ps, c1) i ls st σ = some (o, τ)) : Go G y p l e R s m args below meth c Q n0 c0 w0 ad0 M i ls st σ := by
  intro ad H locs cells slots S I
  obtain ⟨hx, hb, hml, hown, hts, hE, hnm, hrt, hlk, htab, hst, hRf, hRl⟩ := B
  unfold okI at hok
  rw [hM] at hok ⊢
  dsimp only at hok ⊢
  obtain ⟨hd, hn⟩ := dcI_ok hok hM
  obtain ⟨x, z, r, rfl, h⟩ := s2i_inv h
  refine lv_ior hx hb hd ?_
  rw [← hn]
  exact (KS _ _ _ _ h).2 _ _ _ _ _ _ (I.tl.tl.cons trivial rfl)
set_option maxHeartbeats 1000000 in
theorem sd_ixor {k : KK} {i : Nat} {ls st : List Value} {σ : HS} {cl : CL} {pc : Nat} {ps : List Nat} {c1 : Int32} (B : Bse G y d p l R s m args meth c) (KS : KSt G y p l e R s m args below meth c Q n0 c0 w0 ad0 M o τ k) (hM : M i = (pc, .ixor, ps, c1)) (hok : okI y M wp i = true) (h : stepG cl k (pc, .ixor, ps, c1) i ls st σ = some (o, τ)) : Go G y p l e R s m args below meth c Q n0 c0 w0 ad0 M i ls st σ := by
  intro ad H locs cells slots S I
  obtain ⟨hx, hb, hml, hown, hts, hE, hnm, hrt, hlk, htab, hst, hRf, hRl⟩ := B
  unfold okI at hok
  rw [hM] at hok ⊢
  dsimp only at hok ⊢
  obtain ⟨hd, hn⟩ := dcI_ok hok hM
  obtain ⟨x, z, r, rfl, h⟩ := s2i_inv h
  refine lv_ixor hx hb hd ?_
  rw [← hn]
  exact (KS _ _ _ _ h).2 _ _ _ _ _ _ (I.tl.tl.cons trivial rfl)
set_option maxHeartbeats 1000000 in
theorem sd_ishl {k : KK} {i : Nat} {ls st : List Value} {σ : HS} {cl : CL} {pc : Nat} {ps : List Nat} {c1 : Int32} (B : Bse G y d p l R s m args meth c) (KS : KSt G y p l e R s m args below meth c Q n0 c0 w0 ad0 M o τ k) (hM : M i = (pc, .ishl, ps, c1)) (hok : okI y M wp i = true) (h : stepG cl k (pc, .ishl, ps, c1) i ls st σ = some (o, τ)) : Go G y p l e R s m args below meth c Q n0 c0 w0 ad0 M i ls st σ := by
  intro ad H locs cells slots S I
  obtain ⟨hx, hb, hml, hown, hts, hE, hnm, hrt, hlk, htab, hst, hRf, hRl⟩ := B
  unfold okI at hok
  rw [hM] at hok ⊢
  dsimp only at hok ⊢
  obtain ⟨hd, hn⟩ := dcI_ok hok hM
  obtain ⟨x, z, r, rfl, h⟩ := s2i_inv h
  refine lv_ishl hx hb hd ?_
  rw [← hn]
  exact (KS _ _ _ _ h).2 _ _ _ _ _ _ (I.tl.tl.cons trivial rfl)
set_option maxHeartbeats 1000000 in
theorem sd_ishr {k : KK} {i : Nat} {ls st : List Value} {σ : HS} {cl : CL} {pc : Nat} {ps : List Nat} {c1 : Int32} (B : Bse G y d p l R s m args meth c) (KS : KSt G y p l e R s m args below meth c Q n0 c0 w0 ad0 M o τ k) (hM : M i = (pc, .ishr, ps, c1)) (hok : okI y M wp i = true) (h : stepG cl k (pc, .ishr, ps, c1) i ls st σ = some (o, τ)) : Go G y p l e R s m args below meth c Q n0 c0 w0 ad0 M i ls st σ := by
  intro ad H locs cells slots S I
  obtain ⟨hx, hb, hml, hown, hts, hE, hnm, hrt, hlk, htab, hst, hRf, hRl⟩ := B
  unfold okI at hok
  rw [hM] at hok ⊢
  dsimp only at hok ⊢
  obtain ⟨hd, hn⟩ := dcI_ok hok hM
  obtain ⟨x, z, r, rfl, h⟩ := s2i_inv h
  refine lv_ishr hx hb hd ?_
  rw [← hn]
  exact (KS _ _ _ _ h).2 _ _ _ _ _ _ (I.tl.tl.cons trivial rfl)
set_option maxHeartbeats 1000000 in
theorem sd_iushr {k : KK} {i : Nat} {ls st : List Value} {σ : HS} {cl : CL} {pc : Nat} {ps : List Nat} {c1 : Int32} (B : Bse G y d p l R s m args meth c) (KS : KSt G y p l e R s m args below meth c Q n0 c0 w0 ad0 M o τ k) (hM : M i = (pc, .iushr, ps, c1)) (hok : okI y M wp i = true) (h : stepG cl k (pc, .iushr, ps, c1) i ls st σ = some (o, τ)) : Go G y p l e R s m args below meth c Q n0 c0 w0 ad0 M i ls st σ := by
  intro ad H locs cells slots S I
  obtain ⟨hx, hb, hml, hown, hts, hE, hnm, hrt, hlk, htab, hst, hRf, hRl⟩ := B
  unfold okI at hok
  rw [hM] at hok ⊢
  dsimp only at hok ⊢
  obtain ⟨hd, hn⟩ := dcI_ok hok hM
  obtain ⟨x, z, r, rfl, h⟩ := s2i_inv h
  refine lv_iushr hx hb hd rfl ?_
  rw [← hn]
  exact (KS _ _ _ _ h).2 _ _ _ _ _ _ (I.tl.tl.cons trivial rfl)
set_option maxHeartbeats 1000000 in
theorem sd_idiv {k : KK} {i : Nat} {ls st : List Value} {σ : HS} {cl : CL} {pc : Nat} {ps : List Nat} {c1 : Int32} (B : Bse G y d p l R s m args meth c) (KS : KSt G y p l e R s m args below meth c Q n0 c0 w0 ad0 M o τ k) (hM : M i = (pc, .idiv, ps, c1)) (hok : okI y M wp i = true) (h : stepG cl k (pc, .idiv, ps, c1) i ls st σ = some (o, τ)) : Go G y p l e R s m args below meth c Q n0 c0 w0 ad0 M i ls st σ := by
  intro ad H locs cells slots S I
  obtain ⟨hx, hb, hml, hown, hts, hE, hnm, hrt, hlk, htab, hst, hRf, hRl⟩ := B
  unfold okI at hok
  rw [hM] at hok ⊢
  dsimp only at hok ⊢
  obtain ⟨hd, hn⟩ := dcI_ok hok hM
  obtain ⟨x, z, r, rfl, h⟩ := s2i_inv h
  obtain ⟨hz, h⟩ := cond_inv h
  refine lv_idiv hx hb hd (by simpa using hz) ?_
  rw [← hn]
  exact (KS _ _ _ _ h).2 _ _ _ _ _ _ (I.tl.tl.cons trivial rfl)
set_option maxHeartbeats 1000000 in
theorem sd_irem {k : KK} {i : Nat} {ls st : List Value} {σ : HS} {cl : CL} {pc : Nat} {ps : List Nat} {c1 : Int32} (B : Bse G y d p l R s m args meth c) (KS : KSt G y p l e R s m args below meth c Q n0 c0 w0 ad0 M o τ k) (hM : M i = (pc, .irem, ps, c1)) (hok : okI y M wp i = true) (h : stepG cl k (pc, .irem, ps, c1) i ls st σ = some (o, τ)) : Go G y p l e R s m args below meth c Q n0 c0 w0 ad0 M i ls st σ := by
  intro ad H locs cells slots S I
  obtain ⟨hx, hb, hml, hown, hts, hE, hnm, hrt, hlk, htab, hst, hRf, hRl⟩ := B
  unfold okI at hok
  rw [hM] at hok ⊢
  dsimp only at hok ⊢
  obtain ⟨hd, hn⟩ := dcI_ok hok hM
  obtain ⟨x, z, r, rfl, h⟩ := s2i_inv h
  obtain ⟨hz, h⟩ := cond_inv h
  refine lv_irem hx hb hd (by simpa using hz) ?_
  rw [← hn]
  exact (KS _ _ _ _ h).2 _ _ _ _ _ _ (I.tl.tl.cons trivial rfl)
set_option maxHeartbeats 1000000 in
theorem sd_ladd {k : KK} {i : Nat} {ls st : List Value} {σ : HS} {cl : CL} {pc : Nat} {ps : List Nat} {c1 : Int32} (B : Bse G y d p l R s m args meth c) (KS : KSt G y p l e R s m args below meth c Q n0 c0 w0 ad0 M o τ k) (hM : M i = (pc, .ladd, ps, c1)) (hok : okI y M wp i = true) (h : stepG cl k (pc, .ladd, ps, c1) i ls st σ = some (o, τ)) : Go G y p l e R s m args below meth c Q n0 c0 w0 ad0 M i ls st σ := by
  intro ad H locs cells slots S I
  obtain ⟨hx, hb, hml, hown, hts, hE, hnm, hrt, hlk, htab, hst, hRf, hRl⟩ := B
  unfold okI at hok
  rw [hM] at hok ⊢
  dsimp only at hok ⊢
  obtain ⟨hd, hn⟩ := dcI_ok hok hM
  obtain ⟨x, z, r, rfl, h⟩ := s2l_inv h
  refine lv_ladd hx hb hd ?_
  rw [← hn]
  exact (KS _ _ _ _ h).2 _ _ _ _ _ _ (I.tl.tl.cons trivial rfl)
set_option maxHeartbeats 1000000 in
theorem sd_lmul {k : KK} {i : Nat} {ls st : List Value} {σ : HS} {cl : CL} {pc : Nat} {ps : List Nat} {c1 : Int32} (B : Bse G y d p l R s m args meth c) (KS : KSt G y p l e R s m args below meth c Q n0 c0 w0 ad0 M o τ k) (hM : M i = (pc, .lmul, ps, c1)) (hok : okI y M wp i = true) (h : stepG cl k (pc, .lmul, ps, c1) i ls st σ = some (o, τ)) : Go G y p l e R s m args below meth c Q n0 c0 w0 ad0 M i ls st σ := by
  intro ad H locs cells slots S I
  obtain ⟨hx, hb, hml, hown, hts, hE, hnm, hrt, hlk, htab, hst, hRf, hRl⟩ := B
  unfold okI at hok
  rw [hM] at hok ⊢
  dsimp only at hok ⊢
  obtain ⟨hd, hn⟩ := dcI_ok hok hM
  obtain ⟨x, z, r, rfl, h⟩ := s2l_inv h
  refine lv_lmul hx hb hd ?_
  rw [← hn]
  exact (KS _ _ _ _ h).2 _ _ _ _ _ _ (I.tl.tl.cons trivial rfl)
set_option maxHeartbeats 1000000 in
theorem sd_lcmp {k : KK} {i : Nat} {ls st : List Value} {σ : HS} {cl : CL} {pc : Nat} {ps : List Nat} {c1 : Int32} (B : Bse G y d p l R s m args meth c) (KS : KSt G y p l e R s m args below meth c Q n0 c0 w0 ad0 M o τ k) (hM : M i = (pc, .lcmp, ps, c1)) (hok : okI y M wp i = true) (h : stepG cl k (pc, .lcmp, ps, c1) i ls st σ = some (o, τ)) : Go G y p l e R s m args below meth c Q n0 c0 w0 ad0 M i ls st σ := by
  intro ad H locs cells slots S I
  obtain ⟨hx, hb, hml, hown, hts, hE, hnm, hrt, hlk, htab, hst, hRf, hRl⟩ := B
  unfold okI at hok
  rw [hM] at hok ⊢
  dsimp only at hok ⊢
  obtain ⟨hd, hn⟩ := dcI_ok hok hM
  obtain ⟨x, z, r, rfl, h⟩ := s2l_inv h
  refine W.lcmp hx hb hd ?_
  rw [← hn]
  exact (KS _ _ _ _ h).2 _ _ _ _ _ _ (I.tl.tl.cons trivial rfl)
set_option maxHeartbeats 1000000 in
theorem sd_ineg {k : KK} {i : Nat} {ls st : List Value} {σ : HS} {cl : CL} {pc : Nat} {ps : List Nat} {c1 : Int32} (B : Bse G y d p l R s m args meth c) (KS : KSt G y p l e R s m args below meth c Q n0 c0 w0 ad0 M o τ k) (hM : M i = (pc, .ineg, ps, c1)) (hok : okI y M wp i = true) (h : stepG cl k (pc, .ineg, ps, c1) i ls st σ = some (o, τ)) : Go G y p l e R s m args below meth c Q n0 c0 w0 ad0 M i ls st σ := by
  intro ad H locs cells slots S I
  obtain ⟨hx, hb, hml, hown, hts, hE, hnm, hrt, hlk, htab, hst, hRf, hRl⟩ := B
  unfold okI at hok
  rw [hM] at hok ⊢
  dsimp only at hok ⊢
  obtain ⟨hd, hn⟩ := dcI_ok hok hM
  obtain ⟨x, r, rfl, h⟩ := s1i_inv h
  refine lv_ineg hx hb hd ?_
  rw [← hn]
  exact (KS _ _ _ _ h).2 _ _ _ _ _ _ (I.tl.cons trivial rfl)
set_option maxHeartbeats 1000000 in
theorem sd_i2l {k : KK} {i : Nat} {ls st : List Value} {σ : HS} {cl : CL} {pc : Nat} {ps : List Nat} {c1 : Int32} (B : Bse G y d p l R s m args meth c) (KS : KSt G y p l e R s m args below meth c Q n0 c0 w0 ad0 M o τ k) (hM : M i = (pc, .i2l, ps, c1)) (hok : okI y M wp i = true) (h : stepG cl k (pc, .i2l, ps, c1) i ls st σ = some (o, τ)) : Go G y p l e R s m args below meth c Q n0 c0 w0 ad0 M i ls st σ := by
  intro ad H locs cells slots S I
  obtain ⟨hx, hb, hml, hown, hts, hE, hnm, hrt, hlk, htab, hst, hRf, hRl⟩ := B
  unfold okI at hok
  rw [hM] at hok ⊢
  dsimp only at hok ⊢
  obtain ⟨hd, hn⟩ := dcI_ok hok hM
  obtain ⟨x, r, rfl, h⟩ := s1i_inv h
  refine lv_i2l hx hb hd rfl ?_
  rw [← hn]
  exact (KS _ _ _ _ h).2 _ _ _ _ _ _ (I.tl.cons trivial rfl)
set_option maxHeartbeats 1000000 in
theorem sd_aload {k : KK} {i : Nat} {ls st : List Value} {σ : HS} {cl : CL} {pc : Nat} {n : Nat} {ps : List Nat} {c1 : Int32} (B : Bse G y d p l R s m args meth c) (KS : KSt G y p l e R s m args below meth c Q n0 c0 w0 ad0 M o τ k) (hM : M i = (pc, (.aload n), ps, c1)) (hok : okI y M wp i = true) (h : stepG cl k (pc, (.aload n), ps, c1) i ls st σ = some (o, τ)) : Go G y p l e R s m args below meth c Q n0 c0 w0 ad0 M i ls st σ := by
  intro ad H locs cells slots S I
  obtain ⟨hx, hb, hml, hown, hts, hE, hnm, hrt, hlk, htab, hst, hRf, hRl⟩ := B
  unfold okI at hok
  rw [hM] at hok ⊢
  dsimp only at hok ⊢
  obtain ⟨hd, hn⟩ := dcI_ok hok hM
  obtain ⟨x, hv, h⟩ := lr_inv h
  obtain ⟨g1, g2⟩ := I.1.get hv rfl
  cases hr : rfo ad x with
  | none =>
    have e1 : rz ad (.ref x) = .null := by show va_rf (rfo ad x) = _; rw [hr]; rfl
    rw [e1] at g1
    refine lv_aloadN hx hb hd g1 ?_
    rw [← e1, ← hn]
    exact (KS _ _ _ _ h).2 _ _ _ _ _ _ (I.cons g2 rfl)
  | some q =>
    have e1 : rz ad (.ref x) = .ref q := by show va_rf (rfo ad x) = _; rw [hr]; rfl
    rw [e1] at g1
    refine lv_aload hx hb hd g1 ?_
    rw [← e1, ← hn]
    exact (KS _ _ _ _ h).2 _ _ _ _ _ _ (I.cons g2 rfl)
set_option maxHeartbeats 1000000 in
theorem sd_aload_n {k : KK} {i : Nat} {ls st : List Value} {σ : HS} {cl : CL} {pc : Nat} {n : Fin 4} {ps : List Nat} {c1 : Int32} (B : Bse G y d p l R s m args meth c) (KS : KSt G y p l e R s m args below meth c Q n0 c0 w0 ad0 M o τ k) (hM : M i = (pc, (.aload_n n), ps, c1)) (hok : okI y M wp i = true) (h : stepG cl k (pc, (.aload_n n), ps, c1) i ls st σ = some (o, τ)) : Go G y p l e R s m args below meth c Q n0 c0 w0 ad0 M i ls st σ := by
  intro ad H locs cells slots S I
  obtain ⟨hx, hb, hml, hown, hts, hE, hnm, hrt, hlk, htab, hst, hRf, hRl⟩ := B
  unfold okI at hok
  rw [hM] at hok ⊢
  dsimp only at hok ⊢
  obtain ⟨hd, hn⟩ := dcI_ok hok hM
  obtain ⟨x, hv, h⟩ := lr_inv h
  obtain ⟨g1, g2⟩ := I.1.get hv rfl
  cases hr : rfo ad x with
  | none =>
    have e1 : rz ad (.ref x) = .null := by show va_rf (rfo ad x) = _; rw [hr]; rfl
    rw [e1] at g1
    refine lv_aload_nN hx hb hd rfl g1 ?_
    rw [← e1, ← hn]
    exact (KS _ _ _ _ h).2 _ _ _ _ _ _ (I.cons g2 rfl)
  | some q =>
    have e1 : rz ad (.ref x) = .ref q := by show va_rf (rfo ad x) = _; rw [hr]; rfl
    rw [e1] at g1
    refine lv_aload_n hx hb hd rfl g1 ?_
    rw [← e1, ← hn]
    exact (KS _ _ _ _ h).2 _ _ _ _ _ _ (I.cons g2 rfl)
set_option maxHeartbeats 1000000 in
theorem sd_iload {k : KK} {i : Nat} {ls st : List Value} {σ : HS} {cl : CL} {pc : Nat} {n : Nat} {ps : List Nat} {c1 : Int32} (B : Bse G y d p l R s m args meth c) (KS : KSt G y p l e R s m args below meth c Q n0 c0 w0 ad0 M o τ k) (hM : M i = (pc, (.iload n), ps, c1)) (hok : okI y M wp i = true) (h : stepG cl k (pc, (.iload n), ps, c1) i ls st σ = some (o, τ)) : Go G y p l e R s m args below meth c Q n0 c0 w0 ad0 M i ls st σ := by
  intro ad H locs cells slots S I
  obtain ⟨hx, hb, hml, hown, hts, hE, hnm, hrt, hlk, htab, hst, hRf, hRl⟩ := B
  unfold okI at hok
  rw [hM] at hok ⊢
  dsimp only at hok ⊢
  obtain ⟨hd, hn⟩ := dcI_ok hok hM
  obtain ⟨x, hv, h⟩ := li_inv h
  obtain ⟨g1, g2⟩ := I.1.get hv rfl
  refine lv_iload hx hb hd g1 ?_
  rw [← hn]
  exact (KS _ _ _ _ h).2 _ _ _ _ _ _ (I.cons g2 rfl)
set_option maxHeartbeats 1000000 in
theorem sd_iload_n {k : KK} {i : Nat} {ls st : List Value} {σ : HS} {cl : CL} {pc : Nat} {n : Fin 4} {ps : List Nat} {c1 : Int32} (B : Bse G y d p l R s m args meth c) (KS : KSt G y p l e R s m args below meth c Q n0 c0 w0 ad0 M o τ k) (hM : M i = (pc, (.iload_n n), ps, c1)) (hok : okI y M wp i = true) (h : stepG cl k (pc, (.iload_n n), ps, c1) i ls st σ = some (o, τ)) : Go G y p l e R s m args below meth c Q n0 c0 w0 ad0 M i ls st σ := by
  intro ad H locs cells slots S I
  obtain ⟨hx, hb, hml, hown, hts, hE, hnm, hrt, hlk, htab, hst, hRf, hRl⟩ := B
  unfold okI at hok
  rw [hM] at hok ⊢
  dsimp only at hok ⊢
  obtain ⟨hd, hn⟩ := dcI_ok hok hM
  obtain ⟨x, hv, h⟩ := li_inv h
  obtain ⟨g1, g2⟩ := I.1.get hv rfl
  refine lv_iload_n hx hb hd rfl g1 ?_
  rw [← hn]
  exact (KS _ _ _ _ h).2 _ _ _ _ _ _ (I.cons g2 rfl)
set_option maxHeartbeats 1000000 in
theorem sd_lload {k : KK} {i : Nat} {ls st : List Value} {σ : HS} {cl : CL} {pc : Nat} {n : Nat} {ps : List Nat} {c1 : Int32} (B : Bse G y d p l R s m args meth c) (KS : KSt G y p l e R s m args below meth c Q n0 c0 w0 ad0 M o τ k) (hM : M i = (pc, (.lload n), ps, c1)) (hok : okI y M wp i = true) (h : stepG cl k (pc, (.lload n), ps, c1) i ls st σ = some (o, τ)) : Go G y p l e R s m args below meth c Q n0 c0 w0 ad0 M i ls st σ := by
  intro ad H locs cells slots S I
  obtain ⟨hx, hb, hml, hown, hts, hE, hnm, hrt, hlk, htab, hst, hRf, hRl⟩ := B
  unfold okI at hok
  rw [hM] at hok ⊢
  dsimp only at hok ⊢
  obtain ⟨hd, hn⟩ := dcI_ok hok hM
  obtain ⟨x, hv, h⟩ := ll_inv h
  obtain ⟨g1, g2⟩ := I.1.get hv rfl
  refine lv_lload hx hb hd g1 ?_
  rw [← hn]
  exact (KS _ _ _ _ h).2 _ _ _ _ _ _ (I.cons g2 rfl)
set_option maxHeartbeats 1000000 in
theorem sd_lload_n {k : KK} {i : Nat} {ls st : List Value} {σ : HS} {cl : CL} {pc : Nat} {n : Fin 4} {ps : List Nat} {c1 : Int32} (B : Bse G y d p l R s m args meth c) (KS : KSt G y p l e R s m args below meth c Q n0 c0 w0 ad0 M o τ k) (hM : M i = (pc, (.lload_n n), ps, c1)) (hok : okI y M wp i = true) (h : stepG cl k (pc, (.lload_n n), ps, c1) i ls st σ = some (o, τ)) : Go G y p l e R s m args below meth c Q n0 c0 w0 ad0 M i ls st σ := by
  intro ad H locs cells slots S I
  obtain ⟨hx, hb, hml, hown, hts, hE, hnm, hrt, hlk, htab, hst, hRf, hRl⟩ := B
  unfold okI at hok
  rw [hM] at hok ⊢
  dsimp only at hok ⊢
  obtain ⟨hd, hn⟩ := dcI_ok hok hM
  obtain ⟨x, hv, h⟩ := ll_inv h
  obtain ⟨g1, g2⟩ := I.1.get hv rfl
  refine lv_lload_n hx hb hd rfl g1 ?_
  rw [← hn]
  exact (KS _ _ _ _ h).2 _ _ _ _ _ _ (I.cons g2 rfl)
set_option maxHeartbeats 1000000 in
theorem sd_istore {k : KK} {i : Nat} {ls st : List Value} {σ : HS} {cl : CL} {pc : Nat} {n : Nat} {ps : List Nat} {c1 : Int32} (B : Bse G y d p l R s m args meth c) (KS : KSt G y p l e R s m args below meth c Q n0 c0 w0 ad0 M o τ k) (hM : M i = (pc, (.istore n), ps, c1)) (hok : okI y M wp i = true) (h : stepG cl k (pc, (.istore n), ps, c1) i ls st σ = some (o, τ)) : Go G y p l e R s m args below meth c Q n0 c0 w0 ad0 M i ls st σ := by
  intro ad H locs cells slots S I
  obtain ⟨hx, hb, hml, hown, hts, hE, hnm, hrt, hlk, htab, hst, hRf, hRl⟩ := B
  unfold okI at hok
  rw [hM] at hok ⊢
  dsimp only at hok ⊢
  obtain ⟨hd, hn⟩ := dcI_ok hok hM
  obtain ⟨x, r, rfl, h⟩ := s1i_inv h
  obtain ⟨ho, h⟩ := cond_inv h
  refine lv_istore hx hb hd I.1.has (by have := ho; unfold okst at this; rw [Bool.and_eq_true] at this; exact of_decide_eq_true this.1) rfl (fun S' hS' => ?_)
  rw [← hn]
  exact (KS _ _ _ _ h).2 _ _ _ _ _ _ (I.tl.loc (I.1.set ho (v := .int x) trivial hS') (by simp [lset]))
set_option maxHeartbeats 1000000 in
theorem sd_istore_n {k : KK} {i : Nat} {ls st : List Value} {σ : HS} {cl : CL} {pc : Nat} {n : Fin 4} {ps : List Nat} {c1 : Int32} (B : Bse G y d p l R s m args meth c) (KS : KSt G y p l e R s m args below meth c Q n0 c0 w0 ad0 M o τ k) (hM : M i = (pc, (.istore_n n), ps, c1)) (hok : okI y M wp i = true) (h : stepG cl k (pc, (.istore_n n), ps, c1) i ls st σ = some (o, τ)) : Go G y p l e R s m args below meth c Q n0 c0 w0 ad0 M i ls st σ := by
  intro ad H locs cells slots S I
  obtain ⟨hx, hb, hml, hown, hts, hE, hnm, hrt, hlk, htab, hst, hRf, hRl⟩ := B
  unfold okI at hok
  rw [hM] at hok ⊢
  dsimp only at hok ⊢
  obtain ⟨hd, hn⟩ := dcI_ok hok hM
  obtain ⟨x, r, rfl, h⟩ := s1i_inv h
  obtain ⟨ho, h⟩ := cond_inv h
  refine lv_istore_n hx hb hd rfl I.1.has (by have := ho; unfold okst at this; rw [Bool.and_eq_true] at this; exact of_decide_eq_true this.1) rfl (fun S' hS' => ?_)
  rw [← hn]
  exact (KS _ _ _ _ h).2 _ _ _ _ _ _ (I.tl.loc (I.1.set ho (v := .int x) trivial hS') (by simp [lset]))
set_option maxHeartbeats 1000000 in
theorem sd_astore {k : KK} {i : Nat} {ls st : List Value} {σ : HS} {cl : CL} {pc : Nat} {n : Nat} {ps : List Nat} {c1 : Int32} (B : Bse G y d p l R s m args meth c) (KS : KSt G y p l e R s m args below meth c Q n0 c0 w0 ad0 M o τ k) (hM : M i = (pc, (.astore n), ps, c1)) (hok : okI y M wp i = true) (h : stepG cl k (pc, (.astore n), ps, c1) i ls st σ = some (o, τ)) : Go G y p l e R s m args below meth c Q n0 c0 w0 ad0 M i ls st σ := by
  intro ad H locs cells slots S I
  obtain ⟨hx, hb, hml, hown, hts, hE, hnm, hrt, hlk, htab, hst, hRf, hRl⟩ := B
  unfold okI at hok
  rw [hM] at hok ⊢
  dsimp only at hok ⊢
  obtain ⟨hd, hn⟩ := dcI_ok hok hM
  obtain ⟨x, r, rfl, h⟩ := s1r_inv h
  obtain ⟨ho, h⟩ := cond_inv h
  have hlt := of_decide_eq_true ((Bool.and_eq_true _ _).mp ho).1
  have hv := (I.2.2.1 _ List.mem_cons_self).1
  have key : ∀ S', lv_has S' ls.length ((n, rz ad (.ref x)) :: (locL ad ls).filter (fun q => !(q.1 == n) && !(q.1 + 1 == n && q.2.category == 2))) → W p l e R s m args below meth c H locs cells slots Q (F0 m (pc + 2) S' (r.map (rz ad))) := fun S' hS' => by
    rw [← hn]
    exact (KS _ _ _ _ h).2 _ _ _ _ _ _ (I.tl.loc (I.1.set ho hv hS') (by simp [lset]))
  show W p l e R s m args below meth c H locs cells slots Q (F0 m pc S (rz ad (.ref x) :: r.map (rz ad)))
  cases hr : rfo ad x with
  | none =>
    have e1 : rz ad (.ref x) = .null := by show va_rf (rfo ad x) = _; rw [hr]; rfl
    rw [e1] at key ⊢
    exact lv_astoreN hx hb hd I.1.has hlt rfl key
  | some q =>
    have e1 : rz ad (.ref x) = .ref q := by show va_rf (rfo ad x) = _; rw [hr]; rfl
    rw [e1] at key ⊢
    exact lv_astore hx hb hd I.1.has hlt rfl key
set_option maxHeartbeats 1000000 in
theorem sd_astore_n {k : KK} {i : Nat} {ls st : List Value} {σ : HS} {cl : CL} {pc : Nat} {n : Fin 4} {ps : List Nat} {c1 : Int32} (B : Bse G y d p l R s m args meth c) (KS : KSt G y p l e R s m args below meth c Q n0 c0 w0 ad0 M o τ k) (hM : M i = (pc, (.astore_n n), ps, c1)) (hok : okI y M wp i = true) (h : stepG cl k (pc, (.astore_n n), ps, c1) i ls st σ = some (o, τ)) : Go G y p l e R s m args below meth c Q n0 c0 w0 ad0 M i ls st σ := by
  intro ad H locs cells slots S I
  obtain ⟨hx, hb, hml, hown, hts, hE, hnm, hrt, hlk, htab, hst, hRf, hRl⟩ := B
  unfold okI at hok
  rw [hM] at hok ⊢
  dsimp only at hok ⊢
  obtain ⟨hd, hn⟩ := dcI_ok hok hM
  obtain ⟨x, r, rfl, h⟩ := s1r_inv h
  obtain ⟨ho, h⟩ := cond_inv h
  have hlt := of_decide_eq_true ((Bool.and_eq_true _ _).mp ho).1
  have hv := (I.2.2.1 _ List.mem_cons_self).1
  have key : ∀ S', lv_has S' ls.length ((n.val, rz ad (.ref x)) :: (locL ad ls).filter (fun q => !(q.1 == n.val) && !(q.1 + 1 == n.val && q.2.category == 2))) → W p l e R s m args below meth c H locs cells slots Q (F0 m (pc + 1) S' (r.map (rz ad))) := fun S' hS' => by
    rw [← hn]
    exact (KS _ _ _ _ h).2 _ _ _ _ _ _ (I.tl.loc (I.1.set ho hv hS') (by simp [lset]))
  show W p l e R s m args below meth c H locs cells slots Q (F0 m pc S (rz ad (.ref x) :: r.map (rz ad)))
  cases hr : rfo ad x with
  | none =>
    have e1 : rz ad (.ref x) = .null := by show va_rf (rfo ad x) = _; rw [hr]; rfl
    rw [e1] at key ⊢
    exact lv_astore_nN hx hb hd rfl I.1.has hlt rfl key
  | some q =>
    have e1 : rz ad (.ref x) = .ref q := by show va_rf (rfo ad x) = _; rw [hr]; rfl
    rw [e1] at key ⊢
    exact lv_astore_n hx hb hd rfl I.1.has hlt rfl key
set_option maxHeartbeats 1000000 in
theorem sd_lstore {k : KK} {i : Nat} {ls st : List Value} {σ : HS} {cl : CL} {pc : Nat} {n : Nat} {ps : List Nat} {c1 : Int32} (B : Bse G y d p l R s m args meth c) (KS : KSt G y p l e R s m args below meth c Q n0 c0 w0 ad0 M o τ k) (hM : M i = (pc, (.lstore n), ps, c1)) (hok : okI y M wp i = true) (h : stepG cl k (pc, (.lstore n), ps, c1) i ls st σ = some (o, τ)) : Go G y p l e R s m args below meth c Q n0 c0 w0 ad0 M i ls st σ := by
  intro ad H locs cells slots S I
  obtain ⟨hx, hb, hml, hown, hts, hE, hnm, hrt, hlk, htab, hst, hRf, hRl⟩ := B
  unfold okI at hok
  rw [hM] at hok ⊢
  dsimp only at hok ⊢
  obtain ⟨hd, hn⟩ := dcI_ok hok hM
  obtain ⟨x, r, rfl, h⟩ := s1l_inv h
  obtain ⟨ho, h⟩ := cond_inv h
  rw [Bool.and_eq_true] at ho
  have hlt := of_decide_eq_true ho.2
  refine lv_lstore hx hb hd I.1.has hlt rfl (fun S' hS' => ?_)
  rw [← hn]
  exact (KS _ _ _ _ h).2 _ _ _ _ _ _ (I.tl.loc (I.1.set2 ho.1 hlt hS') (by simp [lset]))
set_option maxHeartbeats 1000000 in
theorem sd_iinc {k : KK} {i : Nat} {ls st : List Value} {σ : HS} {cl : CL} {pc : Nat} {n : Nat} {a : Int} {ps : List Nat} {c1 : Int32} (B : Bse G y d p l R s m args meth c) (KS : KSt G y p l e R s m args below meth c Q n0 c0 w0 ad0 M o τ k) (hM : M i = (pc, (.iinc n a), ps, c1)) (hok : okI y M wp i = true) (h : stepG cl k (pc, (.iinc n a), ps, c1) i ls st σ = some (o, τ)) : Go G y p l e R s m args below meth c Q n0 c0 w0 ad0 M i ls st σ := by
  intro ad H locs cells slots S I
  obtain ⟨hx, hb, hml, hown, hts, hE, hnm, hrt, hlk, htab, hst, hRf, hRl⟩ := B
  unfold okI at hok
  rw [hM] at hok ⊢
  dsimp only at hok ⊢
  rw [Bool.and_eq_true] at hok
  obtain ⟨hd, hn⟩ := dcI_ok hok.1 hM
  have hc := of_decide_eq_true hok.2
  obtain ⟨x, hv, h⟩ := li_inv h
  obtain ⟨ho, h⟩ := cond_inv h
  have hlt := of_decide_eq_true ((Bool.and_eq_true _ _).mp ho).1
  obtain ⟨j, hj⟩ := List.getElem?_of_mem (locL_mem.mpr ⟨_, lget_some hv rfl, rfl, rfl⟩ : (n, rz ad (.int x)) ∈ locL ad ls)
  refine lv_iinc (v := x + c1) hx hb hd I.1.has hj (by rw [hc]) hlt rfl (fun S' hS' => ?_)
  rw [← hn]
  exact (KS _ _ _ _ h).2 _ _ _ _ _ _ (I.loc (I.1.set ho (v := .int (x + c1)) trivial hS') (by simp [lset]))
set_option maxHeartbeats 1000000 in
theorem sd_iconst {k : KK} {i : Nat} {ls st : List Value} {σ : HS} {cl : CL} {pc : Nat} {a : Int} {ps : List Nat} {c1 : Int32} (B : Bse G y d p l R s m args meth c) (KS : KSt G y p l e R s m args below meth c Q n0 c0 w0 ad0 M o τ k) (hM : M i = (pc, (.iconst a), ps, c1)) (hok : okI y M wp i = true) (h : stepG cl k (pc, (.iconst a), ps, c1) i ls st σ = some (o, τ)) : Go G y p l e R s m args below meth c Q n0 c0 w0 ad0 M i ls st σ := by
  intro ad H locs cells slots S I
  obtain ⟨hx, hb, hml, hown, hts, hE, hnm, hrt, hlk, htab, hst, hRf, hRl⟩ := B
  unfold okI at hok
  rw [hM] at hok ⊢
  dsimp only at hok ⊢
  rw [Bool.and_eq_true] at hok
  obtain ⟨hd, hn⟩ := dcI_ok hok.1 hM
  refine lv_iconst hx hb hd (of_decide_eq_true hok.2) ?_
  rw [← hn]
  exact (KS _ _ _ _ h).2 _ _ _ _ _ _ (I.cons trivial rfl)
set_option maxHeartbeats 1000000 in
theorem sd_bipush {k : KK} {i : Nat} {ls st : List Value} {σ : HS} {cl : CL} {pc : Nat} {a : Int} {ps : List Nat} {c1 : Int32} (B : Bse G y d p l R s m args meth c) (KS : KSt G y p l e R s m args below meth c Q n0 c0 w0 ad0 M o τ k) (hM : M i = (pc, (.bipush a), ps, c1)) (hok : okI y M wp i = true) (h : stepG cl k (pc, (.bipush a), ps, c1) i ls st σ = some (o, τ)) : Go G y p l e R s m args below meth c Q n0 c0 w0 ad0 M i ls st σ := by
  intro ad H locs cells slots S I
  obtain ⟨hx, hb, hml, hown, hts, hE, hnm, hrt, hlk, htab, hst, hRf, hRl⟩ := B
  unfold okI at hok
  rw [hM] at hok ⊢
  dsimp only at hok ⊢
  rw [Bool.and_eq_true] at hok
  obtain ⟨hd, hn⟩ := dcI_ok hok.1 hM
  refine lv_bipush hx hb hd (of_decide_eq_true hok.2) ?_
  rw [← hn]
  exact (KS _ _ _ _ h).2 _ _ _ _ _ _ (I.cons trivial rfl)
set_option maxHeartbeats 1000000 in
theorem sd_sipush {k : KK} {i : Nat} {ls st : List Value} {σ : HS} {cl : CL} {pc : Nat} {a : Int} {ps : List Nat} {c1 : Int32} (B : Bse G y d p l R s m args meth c) (KS : KSt G y p l e R s m args below meth c Q n0 c0 w0 ad0 M o τ k) (hM : M i = (pc, (.sipush a), ps, c1)) (hok : okI y M wp i = true) (h : stepG cl k (pc, (.sipush a), ps, c1) i ls st σ = some (o, τ)) : Go G y p l e R s m args below meth c Q n0 c0 w0 ad0 M i ls st σ := by
  intro ad H locs cells slots S I
  obtain ⟨hx, hb, hml, hown, hts, hE, hnm, hrt, hlk, htab, hst, hRf, hRl⟩ := B
  unfold okI at hok
  rw [hM] at hok ⊢
  dsimp only at hok ⊢
  rw [Bool.and_eq_true] at hok
  obtain ⟨hd, hn⟩ := dcI_ok hok.1 hM
  refine lv_sipush hx hb hd (of_decide_eq_true hok.2) ?_
  rw [← hn]
  exact (KS _ _ _ _ h).2 _ _ _ _ _ _ (I.cons trivial rfl)
set_option maxHeartbeats 1000000 in
theorem sd_lconst {k : KK} {i : Nat} {ls st : List Value} {σ : HS} {cl : CL} {pc : Nat} {a : Fin 2} {ps : List Nat} {c1 : Int32} (B : Bse G y d p l R s m args meth c) (KS : KSt G y p l e R s m args below meth c Q n0 c0 w0 ad0 M o τ k) (hM : M i = (pc, (.lconst a), ps, c1)) (hok : okI y M wp i = true) (h : stepG cl k (pc, (.lconst a), ps, c1) i ls st σ = some (o, τ)) : Go G y p l e R s m args below meth c Q n0 c0 w0 ad0 M i ls st σ := by
  intro ad H locs cells slots S I
  obtain ⟨hx, hb, hml, hown, hts, hE, hnm, hrt, hlk, htab, hst, hRf, hRl⟩ := B
  unfold okI at hok
  rw [hM] at hok ⊢
  dsimp only at hok ⊢
  obtain ⟨hd, hn⟩ := dcI_ok hok hM
  refine lv_lconst hx hb hd rfl ?_
  rw [← hn]
  exact (KS _ _ _ _ h).2 _ _ _ _ _ _ (I.cons trivial rfl)
set_option maxHeartbeats 1000000 in
theorem sd_goto {k : KK} {i : Nat} {ls st : List Value} {σ : HS} {cl : CL} {pc : Nat} {a : Int} {ps : List Nat} {c1 : Int32} (B : Bse G y d p l R s m args meth c) (KS : KSt G y p l e R s m args below meth c Q n0 c0 w0 ad0 M o τ k) (hM : M i = (pc, (.goto a), ps, c1)) (hok : okI y M wp i = true) (h : stepG cl k (pc, (.goto a), ps, c1) i ls st σ = some (o, τ)) : Go G y p l e R s m args below meth c Q n0 c0 w0 ad0 M i ls st σ := by
  intro ad H locs cells slots S I
  obtain ⟨hx, hb, hml, hown, hts, hE, hnm, hrt, hlk, htab, hst, hRf, hRl⟩ := B
  unfold okI at hok
  rw [hM] at hok ⊢
  dsimp only at hok ⊢
  rw [Bool.and_eq_true] at hok
  obtain ⟨t, rfl, ht⟩ := tgT_ok hok.2 hM
  refine lv_goto hx hb (dcE_ok hok.1 hM) ht ?_
  exact (KS _ _ _ _ h).2 _ _ _ _ _ _ I
set_option maxHeartbeats 1000000 in
theorem sd_ifCond {k : KK} {i : Nat} {ls st : List Value} {σ : HS} {cl : CL} {pc : Nat} {a : ClassFile.Cond} {b : Int} {ps : List Nat} {c1 : Int32} (B : Bse G y d p l R s m args meth c) (KS : KSt G y p l e R s m args below meth c Q n0 c0 w0 ad0 M o τ k) (hM : M i = (pc, (.ifCond a b), ps, c1)) (hok : okI y M wp i = true) (h : stepG cl k (pc, (.ifCond a b), ps, c1) i ls st σ = some (o, τ)) : Go G y p l e R s m args below meth c Q n0 c0 w0 ad0 M i ls st σ := by
  intro ad H locs cells slots S I
  obtain ⟨hx, hb, hml, hown, hts, hE, hnm, hrt, hlk, htab, hst, hRf, hRl⟩ := B
  unfold okI at hok
  rw [hM] at hok ⊢
  dsimp only at hok ⊢
  rw [Bool.and_eq_true] at hok
  obtain ⟨hd, hn⟩ := dcI_ok hok.1 hM
  obtain ⟨t, rfl, ht⟩ := tgT_ok hok.2 hM
  obtain ⟨x, r, rfl, h⟩ := s1i_inv h
  have h : cond (cnd0 a x) (k t ls r σ) (k (i + 1) ls r σ) = some (o, τ) := h
  cases a
  · refine lv_if_eq hx hb hd ht (fun hc => ?_) (fun hc => ?_)
    · exact (KS _ _ _ _ (by simpa [cnd0, hc] using h)).2 _ _ _ _ _ _ I.tl
    · rw [← hn]
      exact (KS _ _ _ _ (by simpa [cnd0, hc] using h)).2 _ _ _ _ _ _ I.tl
  · refine lv_if_ne hx hb hd ht (fun hc => ?_) (fun hc => ?_)
    · exact (KS _ _ _ _ (by simpa [cnd0, hc] using h)).2 _ _ _ _ _ _ I.tl
    · rw [← hn]
      exact (KS _ _ _ _ (by simpa [cnd0, hc] using h)).2 _ _ _ _ _ _ I.tl
  · refine lv_if_lt hx hb hd ht (fun hc => ?_) (fun hc => ?_)
    · exact (KS _ _ _ _ (by simpa [cnd0, hc] using h)).2 _ _ _ _ _ _ I.tl
    · rw [← hn]
      exact (KS _ _ _ _ (by simpa [cnd0, hc] using h)).2 _ _ _ _ _ _ I.tl
  · refine lv_if_ge hx hb hd ht (fun hc => ?_) (fun hc => ?_)
    · exact (KS _ _ _ _ (by simpa [cnd0, hc] using h)).2 _ _ _ _ _ _ I.tl
    · rw [← hn]
      exact (KS _ _ _ _ (by simpa [cnd0, hc] using h)).2 _ _ _ _ _ _ I.tl
  · refine lv_if_gt hx hb hd ht (fun hc => ?_) (fun hc => ?_)
    · exact (KS _ _ _ _ (by simpa [cnd0, hc] using h)).2 _ _ _ _ _ _ I.tl
    · rw [← hn]
      exact (KS _ _ _ _ (by simpa [cnd0, hc] using h)).2 _ _ _ _ _ _ I.tl
  · refine lv_if_le hx hb hd ht (fun hc => ?_) (fun hc => ?_)
    · exact (KS _ _ _ _ (by simpa [cnd0, hc] using h)).2 _ _ _ _ _ _ I.tl
    · rw [← hn]
      exact (KS _ _ _ _ (by simpa [cnd0, hc] using h)).2 _ _ _ _ _ _ I.tl
set_option maxHeartbeats 1000000 in
theorem sd_if_icmp {k : KK} {i : Nat} {ls st : List Value} {σ : HS} {cl : CL} {pc : Nat} {a : ClassFile.Cond} {b : Int} {ps : List Nat} {c1 : Int32} (B : Bse G y d p l R s m args meth c) (KS : KSt G y p l e R s m args below meth c Q n0 c0 w0 ad0 M o τ k) (hM : M i = (pc, (.if_icmp a b), ps, c1)) (hok : okI y M wp i = true) (h : stepG cl k (pc, (.if_icmp a b), ps, c1) i ls st σ = some (o, τ)) : Go G y p l e R s m args below meth c Q n0 c0 w0 ad0 M i ls st σ := by
  intro ad H locs cells slots S I
  obtain ⟨hx, hb, hml, hown, hts, hE, hnm, hrt, hlk, htab, hst, hRf, hRl⟩ := B
  unfold okI at hok
  rw [hM] at hok ⊢
  dsimp only at hok ⊢
  rw [Bool.and_eq_true] at hok
  obtain ⟨hd, hn⟩ := dcI_ok hok.1 hM
  obtain ⟨t, rfl, ht⟩ := tgT_ok hok.2 hM
  obtain ⟨x, z, r, rfl, h⟩ := s2i_inv h
  have h : cond (cnd2 a x z) (k t ls r σ) (k (i + 1) ls r σ) = some (o, τ) := h
  cases a
  · refine lv_icmp_eq hx hb hd ht (fun hc => ?_) (fun hc => ?_)
    · exact (KS _ _ _ _ (by simpa [cnd2, hc] using h)).2 _ _ _ _ _ _ I.tl.tl
    · rw [← hn]
      exact (KS _ _ _ _ (by simpa [cnd2, hc] using h)).2 _ _ _ _ _ _ I.tl.tl
  · refine lv_icmp_ne hx hb hd ht (fun hc => ?_) (fun hc => ?_)
    · exact (KS _ _ _ _ (by simpa [cnd2, hc] using h)).2 _ _ _ _ _ _ I.tl.tl
    · rw [← hn]
      exact (KS _ _ _ _ (by simpa [cnd2, hc] using h)).2 _ _ _ _ _ _ I.tl.tl
  · refine lv_icmp_lt hx hb hd ht (fun hc => ?_) (fun hc => ?_)
    · exact (KS _ _ _ _ (by simpa [cnd2, hc] using h)).2 _ _ _ _ _ _ I.tl.tl
    · rw [← hn]
      exact (KS _ _ _ _ (by simpa [cnd2, hc] using h)).2 _ _ _ _ _ _ I.tl.tl
  · refine lv_icmp_ge hx hb hd ht (fun hc => ?_) (fun hc => ?_)
    · exact (KS _ _ _ _ (by simpa [cnd2, hc] using h)).2 _ _ _ _ _ _ I.tl.tl
    · rw [← hn]
      exact (KS _ _ _ _ (by simpa [cnd2, hc] using h)).2 _ _ _ _ _ _ I.tl.tl
  · refine lv_icmp_gt hx hb hd ht (fun hc => ?_) (fun hc => ?_)
    · exact (KS _ _ _ _ (by simpa [cnd2, hc] using h)).2 _ _ _ _ _ _ I.tl.tl
    · rw [← hn]
      exact (KS _ _ _ _ (by simpa [cnd2, hc] using h)).2 _ _ _ _ _ _ I.tl.tl
  · refine lv_icmp_le hx hb hd ht (fun hc => ?_) (fun hc => ?_)
    · exact (KS _ _ _ _ (by simpa [cnd2, hc] using h)).2 _ _ _ _ _ _ I.tl.tl
    · rw [← hn]
      exact (KS _ _ _ _ (by simpa [cnd2, hc] using h)).2 _ _ _ _ _ _ I.tl.tl
end SND
