/-! SOUNDNESS OF A STEP, the second part: constants, branches on references, switches, the heap -/
section SND
variable {G : GP} {y d : Nat} {p : Program} {l : Launch} {e : Env} {R : Room} {s : State} {m : MethodId} {args : Array Value} {below : List Frame} {meth : Method} {c : Code} {Q : State → Prop} {n0 c0 w0 : Nat} {ad0 : Nat → Nat} {o : Option Value ⊕ Nat} {τ : HS} {M : Nat → DI} {wp : Nat → Nat}
theorem RelH.lt {σ : HS} {ad : Nat → Nat} {H : Heap} (h : RelH txT G σ ad H) : 79 ≤ hN σ := h.1.1
/-- two references are one where their numbers are -/
theorem RelH.inj {σ : HS} {ad : Nat → Nat} {H : Heap} (h : RelH txT G σ ad H) {a b : Nat} (ha : 79 ≤ a) (hb : 79 ≤ b) (ha2 : a < hN σ) (hb2 : b < hN σ) (he : ad a = ad b) : a = b := by
  have := h.2.2.1.1 _ _ _ _ (wsL_at ha ha2) (wsL_at hb hb2) he
  omega
theorem RelH.cell {σ : HS} {ad : Nat → Nat} {H : Heap} (h : RelH txT G σ ad H) {a cc : Nat} (hk : hK σ a = cc) (hc : kOK cc) : 79 ≤ a ∧ a < hN σ ∧ (wsL G.2.1 σ ad)[a - 79]? = some (ad a, ent G.2.1 σ ad a) := by
  obtain ⟨h1, h2⟩ := h.range hk hc
  exact ⟨h1, h2, wsL_at h1 h2⟩
theorem inb_vp {j : Int32} {n : Nat} (h : inb j n = true) : vp_in j n := by
  unfold inb at h
  rw [Bool.and_eq_true] at h
  have h1 : (0 : Int32) ≤ j := of_decide_eq_true h.1
  have h2 : j.toNatClampNeg < n := of_decide_eq_true h.2
  rintro (q | q)
  · exact absurd h1 (Int32.not_le.mpr q)
  · omega
theorem ent_20 {cA : ClassId × ClassId × ClassId × ClassId} {σ : HS} {ad : Nat → Nat} {a : Nat} (h : hK σ a = 20) : ent cA σ ad a = .inl (cA.1, hL σ a, .inl (hI σ a)) := by unfold ent; rw [if_pos h]
theorem ent_21 {cA : ClassId × ClassId × ClassId × ClassId} {σ : HS} {ad : Nat → Nat} {a : Nat} (h : hK σ a = 21) : ent cA σ ad a = .inl (cA.2.1, hL σ a, .inr (.inl (hJ σ a))) := by unfold ent; rw [if_neg (by omega), if_pos h]
theorem ent_22 {cA : ClassId × ClassId × ClassId × ClassId} {σ : HS} {ad : Nat → Nat} {a : Nat} (h : hK σ a = 22) : ent cA σ ad a = .inl (cA.2.2.1, hL σ a, .inl (hI σ a)) := by unfold ent; rw [if_neg (by omega), if_neg (by omega), if_pos h]
theorem ent_23 {cA : ClassId × ClassId × ClassId × ClassId} {σ : HS} {ad : Nat → Nat} {a : Nat} (h : hK σ a = 23) : ent cA σ ad a = .inl (cA.2.2.2, hL σ a, .inr (.inr (.inr (.inr fun j => rfo ad (hR σ a j))))) := by unfold ent; rw [if_neg (by omega), if_neg (by omega), if_neg (by omega), if_pos h]
theorem ent_c {cA : ClassId × ClassId × ClassId × ClassId} {σ : HS} {ad : Nat → Nat} {a k : Nat} (h : hK σ a = k) (hk : k < 13) : ent cA σ ad a = .inr (k, flds σ ad k a) := by unfold ent; rw [if_neg (by omega), if_neg (by omega), if_neg (by omega), if_neg (by omega), h]
theorem refne {σ : HS} {ad : Nat → Nat} {H : Heap} (h : RelH txT G σ ad H) {a cc : Nat} (hk : hK σ a = cc) (hc : cc ≠ 98) : a ≠ 0 := by
  intro q
  subst q
  exact hc (hk.symm.trans h.1.2.1)
theorem flds_at {σ : HS} {ad : Nat → Nat} {k a f : Nat} (hf : f < nf k) : (flds σ ad k a)[f]? = some (if isRf k f = true then va_rf (rfo ad (hR σ a f)) else .int (hI σ a f)) := by
  unfold flds
  rw [List.getElem?_map, List.getElem?_range hf]
  rfl
theorem nf_of {k : Nat} {r : vw_C} (h : getC k = some r) : nf k = r.2.2 := by
  unfold nf
  unfold getC at h
  rw [h]
/-- what a walk owes at its ends -/
def Fin (G : GP) (y : Nat) (p : Program) (l : Launch) (e : Env) (R : Room) (s : State) (m : MethodId) (args : Array Value) (below : List Frame) (meth : Method) (c : Code) (Q : State → Prop) (n0 c0 w0 : Nat) (ad0 : Nat → Nat) (o : Option Value ⊕ Nat) (τ : HS) : Prop :=
  ∀ (ad : Nat → Nat) (H : Heap) (locs : List Loc) (cells slots : Nat), RelH txT G τ ad H → va_S (gAx G) s.heap H locs → (∀ k, k < n0 → ad k = ad0 k) → c0 + cells = hC τ → w0 + slots = hW τ →
    (∀ (x : Int32) (pc : Nat) (S : Array Slot), o = .inl (some (.int x)) → decode (mBy y) pc = .ok (.ireturn, 1) → (mRt y = some .int ∨ mRt y = some .boolean ∧ (x = 0 ∨ x = 1)) → W p l e R s m args below meth c H locs cells slots Q (F0 m pc S [.int x])) ∧
    (∀ (a : Nat) (pc : Nat) (S : Array Slot), o = .inl (some (.ref a)) → a < hN τ → decode (mBy y) pc = .ok (.areturn, 1) → isRT (mRt y) = true → W p l e R s m args below meth c H locs cells slots Q (F0 m pc S [rz ad (.ref a)])) ∧
    (∀ (pc : Nat) (S : Array Slot), o = .inl none → decode (mBy y) pc = .ok (.return_, 1) → mRt y = none → W p l e R s m args below meth c H locs cells slots Q (F0 m pc S [])) ∧
    ∀ (E : Nat) (pc : Nat) (S : Array Slot) (rest : List Value) (q : Addr) (ce : Cell), o = .inr E → 1 ≤ E → E ≤ 5 → H[q]? = some ce → ce.vm = .none → s.vm.findClass (Enm E) = some ce.cls → (∀ z ∈ c.exceptionTable.toList, covers z pc = false ∨ (z.catchType ≠ 0 ∧ ∃ nm : String, (Cond.classLink (mNm y).cls z.catchType nm).before args s = true ∧ va_Nc (Enm E) nm s)) → vx_W p l e R s m args below meth c H locs cells slots Q (F0 m pc S rest) q

set_option maxHeartbeats 1000000 in
theorem sd_ldc {k : KK} {i : Nat} {ls st : List Value} {σ : HS} {cl : CL} {pc : Nat} {n : Nat} {ps : List Nat} {c1 : Int32} (B : Bse G y d p l R s m args meth c) (KS : KSt G y p l e R s m args below meth c Q n0 c0 w0 ad0 M o τ k) (hM : M i = (pc, (.ldc n), ps, c1)) (hok : okI y M wp i = true) (h : stepG cl k (pc, (.ldc n), ps, c1) i ls st σ = some (o, τ)) : Go G y p l e R s m args below meth c Q n0 c0 w0 ad0 M i ls st σ := by
  intro ad H locs cells slots S I
  obtain ⟨hx, hb, hml, hown, hts, hE, hnm, hrt, hlk, htab, hst, hRf, hRl⟩ := B
  unfold okI at hok
  rw [hM] at hok ⊢
  dsimp only at hok ⊢
  rw [Bool.and_eq_true] at hok
  obtain ⟨hd, hn⟩ := dcI_ok hok.1 hM
  rcases ps with _ | ⟨a, _ | ⟨b, r⟩⟩
  · refine lv_ldc hx hb hown (hts _ (wdI_ok hok.2)) hd ?_
    rw [← hn]
    exact (KS _ _ _ _ h).2 _ _ _ _ _ _ (I.cons trivial rfl)
  · have h2 := hok.2
    dsimp only at h2
    rw [Bool.and_eq_true, Bool.and_eq_true] at h2
    obtain ⟨⟨a1, a2⟩, a3⟩ := h2
    have a1 := of_decide_eq_true a1
    have a2 := of_decide_eq_true a2
    cases hq : strT[a - 1]? with
    | none => rw [hq] at a3; cases a3
    | some q =>
      rw [hq] at a3
      dsimp only at a3
      rw [Bool.and_eq_true] at a3
      have b1 := of_decide_eq_true a3.1
      have b2 := of_decide_eq_true a3.2
      have hR := hE.2.2.2.1 _ _ hq
      rw [b1, b2, Nat.sub_add_cancel a1] at hR
      have e1 : rz ad (.ref a) = .ref (gS G a) := by
        rw [rz_ref1 (by omega)]
        rw [I.2.2.2.1.2.2.2 a (by omega)]
      refine va_ldcS hx hb hown hR hd ?_
      rw [← e1, ← hn]
      exact (KS _ _ _ _ h).2 _ _ _ _ _ _ (I.cons (show a < hN σ from by have := I.2.2.2.1.1.1; omega) rfl)
  · have h2 := hok.2
    cases h2
set_option maxHeartbeats 1000000 in
theorem sd_ldc_w {k : KK} {i : Nat} {ls st : List Value} {σ : HS} {cl : CL} {pc : Nat} {n : Nat} {ps : List Nat} {c1 : Int32} (B : Bse G y d p l R s m args meth c) (KS : KSt G y p l e R s m args below meth c Q n0 c0 w0 ad0 M o τ k) (hM : M i = (pc, (.ldc_w n), ps, c1)) (hok : okI y M wp i = true) (h : stepG cl k (pc, (.ldc_w n), ps, c1) i ls st σ = some (o, τ)) : Go G y p l e R s m args below meth c Q n0 c0 w0 ad0 M i ls st σ := by
  intro ad H locs cells slots S I
  obtain ⟨hx, hb, hml, hown, hts, hE, hnm, hrt, hlk, htab, hst, hRf, hRl⟩ := B
  unfold okI at hok
  rw [hM] at hok ⊢
  dsimp only at hok ⊢
  rw [Bool.and_eq_true] at hok
  obtain ⟨hd, hn⟩ := dcI_ok hok.1 hM
  refine lv_ldcw hx hb hown (hts _ (wdI_ok hok.2)) hd ?_
  rw [← hn]
  exact (KS _ _ _ _ h).2 _ _ _ _ _ _ (I.cons trivial rfl)
set_option maxHeartbeats 1000000 in
theorem sd_dup {k : KK} {i : Nat} {ls st : List Value} {σ : HS} {cl : CL} {pc : Nat} {ps : List Nat} {c1 : Int32} (B : Bse G y d p l R s m args meth c) (KS : KSt G y p l e R s m args below meth c Q n0 c0 w0 ad0 M o τ k) (hM : M i = (pc, .dup, ps, c1)) (hok : okI y M wp i = true) (h : stepG cl k (pc, .dup, ps, c1) i ls st σ = some (o, τ)) : Go G y p l e R s m args below meth c Q n0 c0 w0 ad0 M i ls st σ := by
  intro ad H locs cells slots S I
  obtain ⟨hx, hb, hml, hown, hts, hE, hnm, hrt, hlk, htab, hst, hRf, hRl⟩ := B
  unfold okI at hok
  rw [hM] at hok ⊢
  dsimp only at hok ⊢
  obtain ⟨hd, hn⟩ := dcI_ok hok hM
  obtain ⟨v, r, rfl, h⟩ := s1_inv h
  obtain ⟨hv, h⟩ := cond_inv h
  obtain ⟨g1, g2⟩ := I.2.2.1 v List.mem_cons_self
  refine lv_dup hx hb hd (rz_cat g1 g2 (by cases v <;> first | rfl | cases hv)) ?_
  rw [← hn]
  exact (KS _ _ _ _ h).2 _ _ _ _ _ _ (I.cons g1 g2)
set_option maxHeartbeats 1000000 in
theorem sd_dup2 {k : KK} {i : Nat} {ls st : List Value} {σ : HS} {cl : CL} {pc : Nat} {ps : List Nat} {c1 : Int32} (B : Bse G y d p l R s m args meth c) (KS : KSt G y p l e R s m args below meth c Q n0 c0 w0 ad0 M o τ k) (hM : M i = (pc, .dup2, ps, c1)) (hok : okI y M wp i = true) (h : stepG cl k (pc, .dup2, ps, c1) i ls st σ = some (o, τ)) : Go G y p l e R s m args below meth c Q n0 c0 w0 ad0 M i ls st σ := by
  intro ad H locs cells slots S I
  obtain ⟨hx, hb, hml, hown, hts, hE, hnm, hrt, hlk, htab, hst, hRf, hRl⟩ := B
  unfold okI at hok
  rw [hM] at hok ⊢
  dsimp only at hok ⊢
  obtain ⟨hd, hn⟩ := dcI_ok hok hM
  obtain ⟨v, r1, e1, h⟩ := s1_inv h
  obtain ⟨w, r, e2, h⟩ := s1_inv h
  subst e2; subst e1
  obtain ⟨hv, h⟩ := cond_inv h
  rw [Bool.and_eq_true] at hv
  obtain ⟨g1, g2⟩ := I.2.2.1 v List.mem_cons_self
  obtain ⟨g3, g4⟩ := I.2.2.1 w (List.mem_cons_of_mem _ List.mem_cons_self)
  refine lv_dup2_11 hx hb hd (rz_cat g1 g2 (by cases v <;> first | rfl | cases hv.1)) (rz_cat g3 g4 (by cases w <;> first | rfl | cases hv.2)) ?_
  rw [← hn]
  exact (KS _ _ _ _ h).2 _ _ _ _ _ _ ((I.cons g3 g4).cons g1 g2)
set_option maxHeartbeats 1000000 in
theorem sd_pop {k : KK} {i : Nat} {ls st : List Value} {σ : HS} {cl : CL} {pc : Nat} {ps : List Nat} {c1 : Int32} (B : Bse G y d p l R s m args meth c) (KS : KSt G y p l e R s m args below meth c Q n0 c0 w0 ad0 M o τ k) (hM : M i = (pc, .pop, ps, c1)) (hok : okI y M wp i = true) (h : stepG cl k (pc, .pop, ps, c1) i ls st σ = some (o, τ)) : Go G y p l e R s m args below meth c Q n0 c0 w0 ad0 M i ls st σ := by
  intro ad H locs cells slots S I
  obtain ⟨hx, hb, hml, hown, hts, hE, hnm, hrt, hlk, htab, hst, hRf, hRl⟩ := B
  unfold okI at hok
  rw [hM] at hok ⊢
  dsimp only at hok ⊢
  obtain ⟨hd, hn⟩ := dcI_ok hok hM
  obtain ⟨v, r, rfl, h⟩ := s1_inv h
  obtain ⟨hv, h⟩ := cond_inv h
  obtain ⟨g1, g2⟩ := I.2.2.1 v List.mem_cons_self
  refine lv_pop hx hb hd (rz_cat g1 g2 (by cases v <;> first | rfl | cases hv)) ?_
  rw [← hn]
  exact (KS _ _ _ _ h).2 _ _ _ _ _ _ I.tl
set_option maxHeartbeats 1000000 in
theorem sd_ifnull {k : KK} {i : Nat} {ls st : List Value} {σ : HS} {cl : CL} {pc : Nat} {b : Int} {ps : List Nat} {c1 : Int32} (B : Bse G y d p l R s m args meth c) (KS : KSt G y p l e R s m args below meth c Q n0 c0 w0 ad0 M o τ k) (hM : M i = (pc, (.ifnull b), ps, c1)) (hok : okI y M wp i = true) (h : stepG cl k (pc, (.ifnull b), ps, c1) i ls st σ = some (o, τ)) : Go G y p l e R s m args below meth c Q n0 c0 w0 ad0 M i ls st σ := by
  intro ad H locs cells slots S I
  obtain ⟨hx, hb, hml, hown, hts, hE, hnm, hrt, hlk, htab, hst, hRf, hRl⟩ := B
  unfold okI at hok
  rw [hM] at hok ⊢
  dsimp only at hok ⊢
  rw [Bool.and_eq_true] at hok
  obtain ⟨hd, hn⟩ := dcI_ok hok.1 hM
  obtain ⟨t, rfl, ht⟩ := tgT_ok hok.2 hM
  obtain ⟨x, r, rfl, h⟩ := s1r_inv h
  show W p l e R s m args below meth c H locs cells slots Q (F0 m pc S (rz ad (.ref x) :: r.map (rz ad)))
  have h2 : cond (decide (x = 0)) (k t ls r σ) (k (i + 1) ls r σ) = some (o, τ) := h
  by_cases hx0 : x = 0
  · rw [decide_eq_true hx0] at h2
    subst hx0
    have e1 : rz ad (.ref 0) = .null := rfl
    rw [e1]
    refine lv_ifnullN hx hb hd ht ?_
    exact (KS _ _ _ _ h2).2 _ _ _ _ _ _ I.tl
  · rw [decide_eq_false hx0] at h2
    rw [rz_ref1 hx0]
    refine lv_ifnull hx hb hd ?_
    rw [← hn]
    exact (KS _ _ _ _ h2).2 _ _ _ _ _ _ I.tl
set_option maxHeartbeats 1000000 in
theorem sd_ifnonnull {k : KK} {i : Nat} {ls st : List Value} {σ : HS} {cl : CL} {pc : Nat} {b : Int} {ps : List Nat} {c1 : Int32} (B : Bse G y d p l R s m args meth c) (KS : KSt G y p l e R s m args below meth c Q n0 c0 w0 ad0 M o τ k) (hM : M i = (pc, (.ifnonnull b), ps, c1)) (hok : okI y M wp i = true) (h : stepG cl k (pc, (.ifnonnull b), ps, c1) i ls st σ = some (o, τ)) : Go G y p l e R s m args below meth c Q n0 c0 w0 ad0 M i ls st σ := by
  intro ad H locs cells slots S I
  obtain ⟨hx, hb, hml, hown, hts, hE, hnm, hrt, hlk, htab, hst, hRf, hRl⟩ := B
  unfold okI at hok
  rw [hM] at hok ⊢
  dsimp only at hok ⊢
  rw [Bool.and_eq_true] at hok
  obtain ⟨hd, hn⟩ := dcI_ok hok.1 hM
  obtain ⟨t, rfl, ht⟩ := tgT_ok hok.2 hM
  obtain ⟨x, r, rfl, h⟩ := s1r_inv h
  show W p l e R s m args below meth c H locs cells slots Q (F0 m pc S (rz ad (.ref x) :: r.map (rz ad)))
  have h2 : cond (decide (x = 0)) (k (i + 1) ls r σ) (k t ls r σ) = some (o, τ) := h
  by_cases hx0 : x = 0
  · rw [decide_eq_true hx0] at h2
    subst hx0
    have e1 : rz ad (.ref 0) = .null := rfl
    rw [e1]
    refine lv_ifnonnullN hx hb hd ?_
    rw [← hn]
    exact (KS _ _ _ _ h2).2 _ _ _ _ _ _ I.tl
  · rw [decide_eq_false hx0] at h2
    rw [rz_ref1 hx0]
    refine lv_ifnonnull hx hb hd ht ?_
    exact (KS _ _ _ _ h2).2 _ _ _ _ _ _ I.tl
set_option maxHeartbeats 1000000 in
theorem sd_ireturn {k : KK} {i : Nat} {ls st : List Value} {σ : HS} {cl : CL} {pc : Nat} {ps : List Nat} {c1 : Int32} (B : Bse G y d p l R s m args meth c) (KS : KSt G y p l e R s m args below meth c Q n0 c0 w0 ad0 M o τ k) (F : Fin G y p l e R s m args below meth c Q n0 c0 w0 ad0 o τ) (hM : M i = (pc, .ireturn, ps, c1)) (hok : okI y M wp i = true) (h : stepG cl k (pc, .ireturn, ps, c1) i ls st σ = some (o, τ)) : Go G y p l e R s m args below meth c Q n0 c0 w0 ad0 M i ls st σ := by
  intro ad H locs cells slots S I
  obtain ⟨hx, hb, hml, hown, hts, hE, hnm, hrt, hlk, htab, hst, hRf, hRl⟩ := B
  unfold okI at hok
  rw [hM] at hok ⊢
  dsimp only at hok ⊢
  rw [Bool.and_eq_true] at hok
  have hd := dcE_ok hok.1 hM
  obtain ⟨x, r, rfl, h⟩ := s1i_inv h
  obtain ⟨rfl, h⟩ := s0_inv h
  have hq : o = .inl (some (.int x)) ∧ τ = σ ∧ (mRt y = some .int ∨ mRt y = some .boolean ∧ (x = 0 ∨ x = 1)) := by
    rcases ps with _ | ⟨a, r⟩
    · cases h
      exact ⟨rfl, rfl, Or.inl (of_decide_eq_true hok.2)⟩
    · obtain ⟨hc, h⟩ := cond_inv h
      cases h
      exact ⟨rfl, rfl, Or.inr ⟨of_decide_eq_true hok.2, by simpa using hc⟩⟩
  obtain ⟨e1, e2, e3⟩ := hq
  subst e2
  exact (F ad H locs cells slots I.2.2.2.1 I.2.2.2.2.1 I.2.2.2.2.2.1 I.2.2.2.2.2.2.2.1 I.2.2.2.2.2.2.2.2).1 x pc S e1 hd e3
set_option maxHeartbeats 1000000 in
theorem sd_areturn {k : KK} {i : Nat} {ls st : List Value} {σ : HS} {cl : CL} {pc : Nat} {ps : List Nat} {c1 : Int32} (B : Bse G y d p l R s m args meth c) (KS : KSt G y p l e R s m args below meth c Q n0 c0 w0 ad0 M o τ k) (F : Fin G y p l e R s m args below meth c Q n0 c0 w0 ad0 o τ) (hM : M i = (pc, .areturn, ps, c1)) (hok : okI y M wp i = true) (h : stepG cl k (pc, .areturn, ps, c1) i ls st σ = some (o, τ)) : Go G y p l e R s m args below meth c Q n0 c0 w0 ad0 M i ls st σ := by
  intro ad H locs cells slots S I
  obtain ⟨hx, hb, hml, hown, hts, hE, hnm, hrt, hlk, htab, hst, hRf, hRl⟩ := B
  unfold okI at hok
  rw [hM] at hok ⊢
  dsimp only at hok ⊢
  rw [Bool.and_eq_true] at hok
  have hd := dcE_ok hok.1 hM
  obtain ⟨x, r, rfl, h⟩ := s1r_inv h
  obtain ⟨rfl, h⟩ := s0_inv h
  cases h
  exact (F ad H locs cells slots I.2.2.2.1 I.2.2.2.2.1 I.2.2.2.2.2.1 I.2.2.2.2.2.2.2.1 I.2.2.2.2.2.2.2.2).2.1 x pc S rfl (I.2.2.1 _ List.mem_cons_self).1 hd hok.2
set_option maxHeartbeats 1000000 in
theorem sd_return_ {k : KK} {i : Nat} {ls st : List Value} {σ : HS} {cl : CL} {pc : Nat} {ps : List Nat} {c1 : Int32} (B : Bse G y d p l R s m args meth c) (KS : KSt G y p l e R s m args below meth c Q n0 c0 w0 ad0 M o τ k) (F : Fin G y p l e R s m args below meth c Q n0 c0 w0 ad0 o τ) (hM : M i = (pc, .return_, ps, c1)) (hok : okI y M wp i = true) (h : stepG cl k (pc, .return_, ps, c1) i ls st σ = some (o, τ)) : Go G y p l e R s m args below meth c Q n0 c0 w0 ad0 M i ls st σ := by
  intro ad H locs cells slots S I
  obtain ⟨hx, hb, hml, hown, hts, hE, hnm, hrt, hlk, htab, hst, hRf, hRl⟩ := B
  unfold okI at hok
  rw [hM] at hok ⊢
  dsimp only at hok ⊢
  rw [Bool.and_eq_true] at hok
  have hd := dcE_ok hok.1 hM
  obtain ⟨rfl, h⟩ := s0_inv h
  cases h
  exact (F ad H locs cells slots I.2.2.2.1 I.2.2.2.2.1 I.2.2.2.2.2.1 I.2.2.2.2.2.2.2.1 I.2.2.2.2.2.2.2.2).2.2.1 pc S rfl hd (of_decide_eq_true hok.2)
end SND
