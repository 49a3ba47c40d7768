/-! CALLS: a method's contract out of its run; what comes behind a call -/
section CAL
variable {G : GP} {y d : Nat} {p : Program} {l : Launch} {e : Env} {R : Room} {s : State} {m : MethodId} {args : Array Value} {below : List Frame} {meth : Method} {c : Code} {Q : State → Prop} {n0 c0 w0 : Nat} {ad0 : Nat → Nat} {o : Option Value ⊕ Nat} {τ : HS} {M : Nat → DI} {wp : Nat → Nat}
def rmD (d c w : Nat) : Room := { frames := d + 20, cells := c, slots := w, locals := d * 60 + 300 }
def KPre (G : GP) (av : List Value) (σ : HS) (ad : Nat → Nat) : Array Value → State → Prop := va_Pc (av.map (rz ad)) (fun U => EnvOK G U ∧ RelH txT G σ ad U.heap)
def KQ (G : GP) (n : Nat) (ad : Nat → Nat) (o : Option Value ⊕ Nat) (τ : HS) : Array Value → State → Outcome → State → Prop := fun _ st oc t => (∃ (v : Option Value) (ad' : Nat → Nat), o = .inl v ∧ (∀ k, k < n → ad' k = ad k) ∧ oc = .returned (v.map (rz ad')) ∧ RelH txT G τ ad' t.heap ∧ ∀ w, v = some w → vok (hN τ) w ∧ known w = true) ∧ va_F (gAx G) st t
def KX (G : GP) (n : Nat) (ad : Nat → Nat) (o : Option Value ⊕ Nat) (τ : HS) : String → State → State → Prop := fun E st t => (∃ (x : Nat) (ad' : Nat → Nat), o = .inr x ∧ E = Enm x ∧ 1 ≤ x ∧ x ≤ 5 ∧ (∀ k, k < n → ad' k = ad k) ∧ RelH txT G τ ad' t.heap) ∧ va_F (gAx G) st t
/-- the contracts of all methods at depth d -/
def CTR (G : GP) (l : Launch) (d : Nat) (cl : CL) : Prop := ∀ (z : Nat) (av : List Value) (σ : HS) (o : Option Value ⊕ Nat) (τ : HS) (ad : Nat → Nat), cl z av σ = some (o, τ) → z < 374 → (∀ v ∈ av, (vok (hN σ) v ∧ known v = true) ∧ notLong v = true) → av.length = mNp z + cond (mSt z) 0 1 →
  vx_Met l (mNm z) (mWd z :: LTg) (rmD d (hC τ - hC σ) (hW τ - hW σ)) (KPre G av σ ad) (KQ G (hN σ) ad o τ) (KX G (hN σ) ad o τ) (hC τ - hC σ) (hW τ - hW σ) (gAx G)
theorem KPre_blind {av : List Value} {σ : HS} {ad : Nat → Nat} : FrameBlind (KPre G av σ ad) := by
  intro a U g mk h
  obtain ⟨h1, h2, h3⟩ := h
  exact ⟨h1, h2.mv (locs := []) (State.WarmedH.refl U) va_S.rf, h3⟩
theorem KPre_at {av : List Value} {σ : HS} {ad : Nat → Nat} {H : Heap} {locs : List Loc} (hE : EnvOK G s) (hS : va_S (gAx G) s.heap H locs) (hR : RelH txT G σ ad H) : ∀ U : State, U.heap = H → s.WarmedH U.vm → KPre G av σ ad (av.map (rz ad)).toArray U := by
  intro U hU hW
  exact ⟨rfl, hE.mv (locs := locs) hW (by rw [hU]; exact hS), by rw [hU]; exact hR⟩
/-- behind a call that was run -/
theorem ab_call {pc : Nat} {S : Array Slot} {stk rest : List Value} {H : Heap} {locs : List Loc} {cells slots mc ms : Nat} {a : Array Value} {n : Nat} {ad : Nat → Nat} {o1 : Option Value ⊕ Nat} {σ1 : HS}
    (hr : vx_Run p l e R s m args below meth c H locs cells slots mc ms (F0 m pc S stk) rest (KQ G n ad o1 σ1 a) (KX G n ad o1 σ1) (gAx G)) (hS : va_S (gAx G) s.heap H locs)
    (kk : ∀ (v : Option Value) (ad' : Nat → Nat) (H1 : Heap) (locs1 : List Loc), o1 = .inl v → (∀ k, k < n → ad' k = ad k) → RelH txT G σ1 ad' H1 → (∀ w, v = some w → vok (hN σ1) w ∧ known w = true) → va_S (gAx G) s.heap H1 locs1 → W p l e R s m args below meth c H1 locs1 (cells + mc) (slots + ms) Q (F0 m (pc + 3) S ((v.map (rz ad')).toList ++ rest)))
    (kx : ∀ (x : Nat) (ad' : Nat → Nat) (H1 : Heap) (locs1 : List Loc) (q : Addr) (ce : Cell), o1 = .inr x → 1 ≤ x → x ≤ 5 → (∀ k, k < n → ad' k = ad k) → RelH txT G σ1 ad' H1 → va_S (gAx G) s.heap H1 locs1 → H1[q]? = some ce → ce.vm = .none → s.vm.findClass (Enm x) = some ce.cls → vx_W p l e R s m args below meth c H1 locs1 (cells + mc) (slots + ms) Q (F0 m pc S rest) q) :
    W p l e R s m args below meth c H locs cells slots Q (F0 m pc S stk) := by
  intro T hT X
  rcases hr T hT X with ⟨v, st₀, t, T', L, h0, X', hL, e1, e2, ⟨⟨v1, ad', g1, g2, g3, g4, g5⟩, hF⟩, st⟩ | ⟨q, st₀, t, T', L, E, ce, h0, X', hL, e1, e2, ⟨⟨x, ad', g1, g2, g3, g4, g5, g6⟩, hF⟩, hce, hcv, hcl, st⟩
  · cases g3
    obtain ⟨k1, k2, k3⟩ := vx_keep (A1 := gAx G) h0 e1 hS (fun _ _ h => h) (fun _ h => h) hL hF
    obtain ⟨t2, a1, b1⟩ := kk v1 ad' T'.heap (locs ++ L) g1 g2 (by rw [e1]; exact g4) g5 k3 T' rfl X'
    exact ⟨t2, st t2 a1, b1⟩
  · subst g2
    obtain ⟨k1, k2, k3⟩ := vx_keep (A1 := gAx G) h0 e1 hS (fun _ _ h => h) (fun _ h => h) hL hF
    obtain ⟨t2, a1, b1⟩ := kx x ad' T'.heap (locs ++ L) q ce g1 g3 g4 g5 (by rw [e1]; exact g6) k3 (by rw [e1]; exact hce) hcv hcl T' rfl X'
    exact ⟨t2, st.trans a1, b1⟩
theorem lvR.setU {ad : Nat → Nat} {n : Nat} {S S' : Array Slot} {ls : List Value} {w : Value} (h : lvR ad n S ls) {i : Nat} (hi : okst ls i = true)
    (h' : lv_has S' ls.length ((i, w) :: (locL ad ls).filter (fun q => !(q.1 == i) && !(q.1 + 1 == i && q.2.category == 2)))) : lvR ad n S' (lset ls i (.retAddr 0)) := by
  unfold okst at hi
  rw [Bool.and_eq_true] at hi
  obtain ⟨h1, h2⟩ := hi
  have h1 := of_decide_eq_true h1
  refine ⟨by rw [h'.1]; simp [lset], h'.2.1, fun j u hu => ?_⟩
  unfold lset at hu
  by_cases hj : j = i
  · subst hj
    rw [List.getElem?_set_self h1] at hu
    cases hu
    exact ⟨trivial, fun hk => by cases hk⟩
  · rw [List.getElem?_set_ne (Ne.symm hj)] at hu
    obtain ⟨g1, g2⟩ := h.2.2 j u hu
    refine ⟨g1, fun hk => h'.2.2 (j, rz ad u) (List.mem_cons_of_mem _ (List.mem_filter.mpr ⟨locL_mem.mpr ⟨u, hu, hk, rfl⟩, ?_⟩))⟩
    simp only [Bool.and_eq_true, Bool.not_eq_true', beq_eq_false_iff_ne, ne_eq, Bool.and_eq_false_iff]
    refine ⟨hj, ?_⟩
    by_cases hj2 : j + 1 = i
    · right
      subst hj2
      have h3 : notLong (lget ls j) = true := h2
      have h4 : lget ls j = u := by unfold lget; rw [List.getD_eq_getElem?_getD, hu]; rfl
      rw [h4] at h3
      rw [rz_cat g1 hk h3]
      decide
    · left
      exact hj2
/-- the frame behind a call: the same locals and what lies below on the stack -/
theorem Inv.back {σ σ1 : HS} {ls st st1 : List Value} {ad ad' : Nat → Nat} {H H1 : Heap} {locs locs1 : List Loc} {cells slots : Nat} {S : Array Slot} (I : Inv G y s n0 c0 w0 ad0 σ ls st ad H locs cells slots S) (hle : sLe σ σ1) (ha : ∀ k, k < hN σ → ad' k = ad k) (hR1 : RelH txT G σ1 ad' H1) (hS1 : va_S (gAx G) s.heap H1 locs1) (hst : ∀ v ∈ st1, v ∈ st ∨ (vok (hN σ1) v ∧ known v = true)) : Inv G y s n0 c0 w0 ad0 σ1 ls st1 ad' H1 locs1 (cells + (hC σ1 - hC σ)) (slots + (hW σ1 - hW σ)) S := by
  obtain ⟨i1, i2, i3, i4, i5, i6, i7, i8, i9⟩ := I
  obtain ⟨l1, l2, l3⟩ := hle
  refine ⟨i1.up l1 ha, i2, fun v hv => ?_, hR1, hS1, fun k hk => by rw [ha k (by omega)]; exact i6 k hk, by omega, by omega, by omega⟩
  rcases hst v hv with h | h
  · exact ⟨vok_up (i3 v h).1 l1, (i3 v h).2⟩
  · exact h
theorem lm_self {x : Nat} (h1 : 1 ≤ x) (h2 : x ≤ 5) : Cond.castable (Enm x) (Enm x) ∈ lw_tbl := by
  have : x = 1 ∨ x = 2 ∨ x = 3 ∨ x = 4 ∨ x = 5 := by omega
  rcases this with rfl | rfl | rfl | rfl | rfl <;> decide +kernel
theorem thrT_E : ∀ q ∈ thrT, q.2.2.2.2.1 = Enm q.2.2.2.2.2.1 ∧ 1 ≤ q.2.2.2.2.2.1 ∧ q.2.2.2.2.2.1 ≤ 5 := by decide +kernel
/-- a throw that came out of a call: the first handler that takes it, or out of this method -/
theorem hnd_go {k : KK} {i pc : Nat} {ls rest st : List Value} {σ1 : HS} {ad' : Nat → Nat} {H1 : Heap} {locs1 : List Loc} {cells slots x : Nat} {S : Array Slot} {q : Addr} {ce : Cell}
    (B : Bse G y d p l R s m args meth c) (KS : KSt G y p l e R s m args below meth c Q n0 c0 w0 ad0 M o τ k) (F : Fin G y p l e R s m args below meth c Q n0 c0 w0 ad0 o τ)
    (I : Inv G y s n0 c0 w0 ad0 σ1 ls st ad' H1 locs1 cells slots S) (x1 : 1 ≤ x) (x5 : x ≤ 5) (hce : H1[q]? = some ce) (hcv : ce.vm = .none) (hcl : s.vm.findClass (Enm x) = some ce.cls) :
    ∀ (hh : List (Nat × Nat × Nat × Nat)) (hs : List Nat) (pre : List ExceptionTableEntry), okH y M wp pc hs hh = true → c.exceptionTable.toList = pre ++ tableOf hh → (∀ z ∈ pre, covers z pc = false ∨ (z.catchType ≠ 0 ∧ ∃ nm : String, (Cond.classLink (mNm y).cls z.catchType nm).before args s = true ∧ va_Nc (Enm x) nm s)) → hnd hs x σ1 k ls = some (o, τ) →
      vx_W p l e R s m args below meth c H1 locs1 cells slots Q (F0 m pc S rest) q := by
  obtain ⟨hx, hb, hml, hown, hts, hE, hnm, hrt, hlk, htab, hst, hRf, hRl⟩ := B
  intro hh
  induction hh with
  | nil =>
    intro hs pre hok hsp hpre h
    have hs0 : hs = [] := of_decide_eq_true hok
    subst hs0
    cases h
    obtain ⟨i1, i2, i3, i4, i5, i6, i7, i8, i9⟩ := I
    refine (F ad' H1 locs1 cells slots i4 i5 i6 i8 i9).2.2.2 x pc S rest q ce rfl x1 x5 hce hcv hcl (fun z hz => hpre z ?_)
    rw [hsp] at hz
    simpa [tableOf] using hz
  | cons hd hh ih =>
    obtain ⟨ha, hb2, hp, ct⟩ := hd
    intro hs pre hok hsp hpre h
    unfold okH at hok
    have hsp2 : c.exceptionTable.toList = (pre ++ [⟨ha, hb2, hp, ct⟩]) ++ tableOf hh := by rw [hsp]; simp [tableOf]
    cases hcov : (decide (ha ≤ pc) && decide (pc < hb2)) with
    | false =>
      rw [hcov] at hok
      refine ih hs _ hok hsp2 (fun z hz => ?_) h
      rcases List.mem_append.mp hz with hz | hz
      · exact hpre z hz
      · rw [List.mem_singleton.mp hz]
        exact Or.inl hcov
    | true =>
      rw [hcov] at hok
      rcases hs with _ | ⟨e1, _ | ⟨t, _ | ⟨cc, hs⟩⟩⟩
      · cases hok
      · cases hok
      · cases hok
      · dsimp only [cond_true] at hok
        rw [Bool.and_eq_true, Bool.and_eq_true, Bool.and_eq_true, Bool.and_eq_true] at hok
        obtain ⟨⟨⟨⟨g1, g2⟩, g3⟩, g4⟩, g5⟩ := hok
        have g1 : (M t).1 = hp := of_decide_eq_true g1
        cases hf : thrT.find? (fun q => decide (q.2.2.2.2.2.1 = e1)) with
        | none => rw [hf] at g4; cases g4
        | some r =>
          rw [hf] at g4
          have hre : r.2.2.2.2.2.1 = e1 := by
            have := List.find?_some hf
            simpa using this
          obtain ⟨n1, n2, n3⟩ := thrT_E r (List.mem_of_find?_eq_some hf)
          rw [hre] at n1 n2 n3
          have hlink := hts _ (wdI_ok g4)
          rw [n1] at hlink
          have hct0 : ct ≠ 0 := by
            rw [Bool.and_eq_true] at g3
            exact of_decide_eq_true g3.2
          have h2 : cond (decide (x = e1)) (cond (okst ls cc) (k (t + 1) (lset ls cc (.retAddr 0)) [] σ1) none) (hnd hs x σ1 k ls) = some (o, τ) := h
          by_cases hxe : x = e1
          · subst hxe
            rw [decide_eq_true rfl] at h2
            obtain ⟨ho, h3⟩ := cond_inv h2
            have hgo : ∀ S', lv_has S' ls.length ((cc, Value.ref q) :: (locL ad' ls).filter (fun q => !(q.1 == cc) && !(q.1 + 1 == cc && q.2.category == 2))) → W p l e R s m args below meth c H1 locs1 cells slots Q (F0 m (M (t + 1)).1 S' []) := fun S' hS' =>
              (KS _ _ _ _ h3).2 _ _ _ _ _ _ ⟨I.1.setU ho hS', by rw [← I.2.1]; simp [lset], fun v hv => by (cases hv), I.2.2.2⟩
            have hlt := of_decide_eq_true ((Bool.and_eq_true _ _).mp ho).1
            refine vx_catch hown pre ⟨ha, hb2, hp, ct⟩ (tableOf hh) (by rw [hsp]; rfl) hpre hcov hct0 hlink (va_Nw.use rfl (hE.2.1 _ (lm_self n2 n3) rfl)) hce hcv hcl ?_
            show W p l e R s m args below meth c H1 locs1 cells slots Q (F0 m hp S [.ref q])
            rw [← g1]
            rcases hMt : M t with ⟨pc2, ins2, ps2, k2⟩
            rw [hMt] at g2
            show W p l e R s m args below meth c H1 locs1 cells slots Q (F0 m pc2 S [.ref q])
            cases ins2 <;> first
              | cases g2; done
              | skip
            case astore n =>
              dsimp only at g2
              rw [Bool.and_eq_true] at g2
              have hnc : n = cc := of_decide_eq_true g2.1
              subst hnc
              obtain ⟨hd, hn⟩ := dcI_ok g2.2 hMt
              exact lv_astore hx hb hd I.1.has hlt rfl (fun S' hS' => by
                have := hgo S' hS'
                rw [hn] at this
                exact this)
            case astore_n n =>
              dsimp only at g2
              rw [Bool.and_eq_true] at g2
              have hnc : n.val = cc := of_decide_eq_true g2.1
              subst hnc
              obtain ⟨hd, hn⟩ := dcI_ok g2.2 hMt
              exact lv_astore_n hx hb hd rfl I.1.has hlt rfl (fun S' hS' => by
                have := hgo S' hS'
                rw [hn] at this
                exact this)
          · rw [decide_eq_false hxe] at h2
            refine ih hs _ g5 hsp2 (fun z hz => ?_) h2
            rcases List.mem_append.mp hz with hz | hz
            · exact hpre z hz
            · rw [List.mem_singleton.mp hz]
              exact Or.inr ⟨hct0, Enm e1, hlink, hE.2.2.2.2.1 x e1 x1 x5 n2 n3 hxe⟩
end CAL
