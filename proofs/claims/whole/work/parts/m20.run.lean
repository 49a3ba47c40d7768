/-! ALL METHODS' CONTRACTS, by induction on the depth -/
section RUN
variable {G : GP} {l : Launch}
/-- the locals at a method's entry -/
theorem entry_lvR {ad : Nat → Nat} {n mx : Nat} {av : List Value} (h1 : ∀ v ∈ av, (vok n v ∧ known v = true) ∧ notLong v = true) (h2 : av.length ≤ mx) : lvR ad n (lg_sl (av.map (rz ad)) ++ List.replicate (mx - (lg_sl (av.map (rz ad))).length) Slot.unset).toArray (av ++ List.replicate (mx - av.length) (.retAddr 0)) := by
  have hsl : ∀ (av : List Value), (∀ v ∈ av, (vok n v ∧ known v = true) ∧ notLong v = true) → lg_sl (av.map (rz ad)) = av.map (fun v => Slot.val (rz ad v)) := by
    intro av
    induction av with
    | nil => intro _; rfl
    | cons v av ih =>
      intro h
      obtain ⟨⟨g1, g2⟩, g3⟩ := h v List.mem_cons_self
      have hc := rz_cat (ad := ad) g1 g2 g3
      have := ih (fun w hw => h w (List.mem_cons_of_mem _ hw))
      unfold lg_sl at this ⊢
      rw [List.map_cons, List.flatMap_cons, this, List.map_cons, if_neg (by omega)]
      rfl
  have e := hsl av h1
  have hlen : (lg_sl (av.map (rz ad))).length = av.length := by rw [e, List.length_map]
  have hh := lv_entry (av.map (rz ad)) (n := mx) (by rw [hlen]; exact h2)
  refine ⟨by rw [hh.1, List.length_append, List.length_replicate]; omega, hh.2.1, fun i v hv => ?_⟩
  by_cases hi : i < av.length
  · rw [List.getElem?_append_left hi] at hv
    have hm := List.mem_of_getElem? hv
    refine ⟨(h1 v hm).1.1, fun _ => ?_⟩
    rw [e, List.getElem?_toArray, List.getElem?_append_left (by rw [List.length_map]; exact hi), List.getElem?_map, hv]
    rfl
  · rw [List.getElem?_append_right (by omega)] at hv
    have hm := List.mem_of_getElem? hv
    rw [List.eq_of_mem_replicate hm]
    exact ⟨trivial, fun q => by cases q⟩
/-- what is known of the tables of a method -/
def TAB (z : Nat) : Prop := MOK z ∧ (PR z).2 = mMx z ∧ ((PR z).1 0).1 = 0 ∧ ∃ wp : Nat → Nat, ∀ i, nopI ((PR z).1 i).2.1 = true ∨ okI z (PR z).1 wp i = true
/-- throws, and texts: premises that are proved apart -/
def THR (G : GP) (l : Launch) : Prop := ∀ (y d : Nat) (p : Program) (e : Env) (R : Room) (s : State) (m : MethodId) (args : Array Value) (below : List Frame) (meth : Method) (c : Code) (n0 c0 w0 : Nat) (ad0 : Nat → Nat) (o : Option Value ⊕ Nat) (τ : HS) (M : Nat → DI) (wp : Nat → Nat) (cl : CL) (k : KK) (i : Nat) (ls st : List Value) (σ : HS) (pc n E : Nat) (c1 : Int32),
  Bse G y (d + 1) p l R s m args meth c → hC τ ≤ c0 + R.cells → hW τ ≤ w0 + R.slots → okI y M wp i = true → M i = (pc, .new n, [E], c1) → stepG cl k (M i) i ls st σ = some (o, τ) →
  Go G y p l e R s m args below meth c (vx_MQ below (KQ G n0 ad0 o τ) (KX G n0 ad0 o τ) args s (hC τ - c0) (hW τ - w0) (gAx G)) n0 c0 w0 ad0 M i ls st σ
def TXT (G : GP) (l : Launch) : Prop := ∀ (y d : Nat) (p : Program) (e : Env) (R : Room) (s : State) (m : MethodId) (args : Array Value) (below : List Frame) (meth : Method) (c : Code) (Q : State → Prop) (n0 c0 w0 : Nat) (ad0 : Nat → Nat) (o : Option Value ⊕ Nat) (τ : HS) (M : Nat → DI) (wp : Nat → Nat) (cl : CL) (k : KK) (i : Nat) (ls st : List Value) (σ : HS) (pc n rk : Nat) (c1 : Int32),
  Bse G y (d + 1) p l R s m args meth c → hC τ ≤ c0 + R.cells → hW τ ≤ w0 + R.slots → KSt G y p l e R s m args below meth c Q n0 c0 w0 ad0 M o τ k → okI y M wp i = true → rk = 8 ∨ rk = 9 → M i = (pc, .invokevirtual n, [0, 0, rk, 0], c1) → stepG cl k (M i) i ls st σ = some (o, τ) → Go G y p l e R s m args below meth c Q n0 c0 w0 ad0 M i ls st σ
theorem fin_met {y d : Nat} {p : Program} {e : Env} {R : Room} {s : State} {m : MethodId} {args : Array Value} {below : List Frame} {meth : Method} {c : Code} {n0 c0 w0 : Nat} {ad0 : Nat → Nat} {o : Option Value ⊕ Nat} {τ : HS} (B : Bse G y (d + 1) p l R s m args meth c) :
    Fin G y p l e R s m args below meth c (vx_MQ below (KQ G n0 ad0 o τ) (KX G n0 ad0 o τ) args s (hC τ - c0) (hW τ - w0) (gAx G)) n0 c0 w0 ad0 o τ := by
  obtain ⟨hx, hb, hml, hown, hts, hE, hnm, hrt, hlk, htab, hst, hRf, hRl⟩ := B
  intro ad H locs cells slots hR hS ha hc hw
  have e1 : hC τ - c0 = cells := by omega
  have e2 : hW τ - w0 = slots := by omega
  rw [e1, e2]
  refine ⟨fun x pc S ho hd hty => ?_, fun a pc S ho hlt hd hty => ?_, fun pc S ho hd hty => ?_, fun E pc S rest q ce ho x1 x5 hce hcv hcl hpass => ?_⟩
  · refine vx_ret ?_
    have hq : ∀ t : State, t.heap = H → s.WarmedH t.vm → KQ G n0 ad0 o τ args s (.returned (some (.int x))) t := fun t ht hW => ⟨⟨some (.int x), ad, ho, ha, rfl, by rw [ht]; exact hR, fun w hw => by cases hw; exact ⟨trivial, rfl⟩⟩, hS.F ht⟩
    rcases hty with h | ⟨h, h01⟩
    · exact W.zret hx hb (hrt.trans h) rfl hq hS.2.2 hd hlk
    · exact W.zret hx hb (hrt.trans h) (by rcases h01 with rfl | rfl <;> decide +kernel) hq hS.2.2 hd hlk
  · refine vx_ret ?_
    have hq : ∀ t : State, t.heap = H → s.WarmedH t.vm → KQ G n0 ad0 o τ args s (.returned (some (rz ad (.ref a)))) t := fun t ht hW => ⟨⟨some (.ref a), ad, ho, ha, rfl, by rw [ht]; exact hR, fun w hw => by cases hw; exact ⟨hlt, rfl⟩⟩, hS.F ht⟩
    have hv : rz ad (.ref a) = .null ∨ ∃ b, rz ad (.ref a) = .ref b := by
      show va_rf (rfo ad a) = .null ∨ ∃ b, va_rf (rfo ad a) = .ref b
      cases rfo ad a with
      | none => exact Or.inl rfl
      | some b => exact Or.inr ⟨b, rfl⟩
    unfold isRT at hty
    split at hty
    · rename_i h
      exact W.aret hx hb (hrt.trans h) (Or.inl ⟨_, rfl⟩) hv hq hS.2.2 hd hlk
    · rename_i h
      exact W.aret hx hb (hrt.trans h) (Or.inr ⟨_, rfl⟩) hv hq hS.2.2 hd hlk
    · cases hty
  · refine vx_ret ?_
    exact W.vret hx hb (hrt.trans hty) (fun t ht hW => ⟨⟨none, ad, ho, ha, rfl, by rw [ht]; exact hR, fun w hw => by cases hw⟩, hS.F ht⟩) hS.2.2 hd hlk
  · exact vx_outP hown hlk hpass hce hcv hcl (fun t ht hv => ⟨⟨E, ad, ho, rfl, x1, x5, ha, by rw [ht]; exact hR⟩, hS.F ht⟩) hS.2.2 (Nat.le_refl _) (Nat.le_refl _)
theorem stand_room (d a b : Nat) : (rmD (d + 1) a b).frames = d + 21 ∧ (rmD (d + 1) a b).locals = (d + 1) * 60 + 300 ∧ (rmD (d + 1) a b).cells = a ∧ (rmD (d + 1) a b).slots = b := ⟨rfl, rfl, rfl, rfl⟩
/-- the body of a method at depth d + 1, its callees met at depth d -/
theorem body_go {d N z : Nat} {cl : CL} (hl : l.stackTraces = false) (hT : TAB z) (hmo : ∀ z, z < 374 → MOK z) (hTHR : THR G l) (hTXT : TXT G l) (C : CTR G l d cl) (hge : ∀ y a σ, oGe σ (cl y a σ)) {av : List Value} {σ : HS} {o : Option Value ⊕ Nat} {τ : HS} {ad : Nat → Nat}
    (h : exec cl (PR z).1 N 0 (av ++ List.replicate ((PR z).2 - av.length) (.retAddr 0)) [] σ = some (o, τ)) (hav : ∀ v ∈ av, (vok (hN σ) v ∧ known v = true) ∧ notLong v = true) (hlen : av.length = mNp z + cond (mSt z) 0 1)
    {p : Program} {e : Env} {s : State} {m : MethodId} {args : Array Value} {below : List Frame} {meth : Method} {c : Code} (hx : p.tables.exec = Jvm.exec) (hb : c.code = mBy z) (hml : c.maxLocals = mMx z) (hown : s.vm.findClass (mNm z).cls = some m.cls) (hts : ∀ w ∈ LTg, w.before args s = true) (hnm : meth.name = (mNm z).name) (hrt : meth.sig.returnType = mRt z) (hlk : meth.locks = false) (htab : c.exceptionTable.toList = tableOf (mHh z)) (hP : KPre G av σ ad args s) :
    W p l e (rmD (d + 1) (hC τ - hC σ) (hW τ - hW σ)) s m args below meth c s.heap [] 0 0 (vx_MQ below (KQ G (hN σ) ad o τ) (KX G (hN σ) ad o τ) args s (hC τ - hC σ) (hW τ - hW σ) (gAx G)) (entryFrame m args (mMx z)) := by
  obtain ⟨ha, hE, hR⟩ := hP
  obtain ⟨⟨-, -, -, -, -, -, -, -, hfit, -⟩, hmx, hpc, wp, hok⟩ := hT
  rw [← hlen] at hfit
  have B : Bse G z (d + 1) p l (rmD (d + 1) (hC τ - hC σ) (hW τ - hW σ)) s m args meth c := ⟨hx, hb, hml, hown, hts, hE, hnm, hrt, hlk, htab, hl, by show (d + 1) * 1 + 20 ≤ d + 1 + 20; omega, Nat.le_refl _⟩
  have hle := oGe.exec hge (PR z).1 N _ _ _ σ o τ h
  have g2 := hle.2.1
  have g3 := hle.2.2
  have KS := exec_sound (M := (PR z).1) (wp := wp) (n0 := hN σ) (c0 := hC σ) (w0 := hW σ) (ad0 := ad) (o := o) (τ := τ) (e := e) (below := below) B (fin_met B) C hge (by show hC τ ≤ hC σ + (hC τ - hC σ); omega) (by show hW τ ≤ hW σ + (hW τ - hW σ); omega) hmo (fun i => (hok i).elim (fun q => Or.inr fun k ls st σ => nop_none q) Or.inl)
    (fun k i ls st σ' pc n E c1 hi hM hs => hTHR _ _ _ _ _ _ _ _ _ _ _ _ _ _ _ _ _ _ wp cl k i ls st σ' pc n E c1 B (by show hC τ ≤ hC σ + (hC τ - hC σ); omega) (by show hW τ ≤ hW σ + (hW τ - hW σ); omega) hi hM hs)
    (fun k i ls st σ' pc n rk c1 hk hi hrk hM hs => hTXT _ _ _ _ _ _ _ _ _ _ _ _ _ _ _ _ _ _ _ wp cl k i ls st σ' pc n rk c1 B (by show hC τ ≤ hC σ + (hC τ - hC σ); omega) (by show hW τ ≤ hW σ + (hW τ - hW σ); omega) hk hi hrk hM hs) N
  have hl2 := entry_lvR (ad := ad) (n := hN σ) (mx := mMx z) hav hfit
  have hgo := (KS _ _ _ _ h).2 ad s.heap [] 0 0 _ ⟨by rw [hmx]; exact hl2, by rw [List.length_append, List.length_replicate, hmx]; exact Nat.add_sub_cancel' hfit, fun v hv => by (cases hv), hR, va_S.rf, fun k _ => rfl, Nat.le_refl _, rfl, rfl⟩
  rw [hpc] at hgo
  subst ha
  rw [lg_entry_eq]
  exact hgo
/-- every method's contract, at every depth -/
theorem ctr_all (hl : l.stackTraces = false) (hT : ∀ z, z < 374 → TAB z) (hTHR : THR G l) (hTXT : TXT G l) (N : Nat) : ∀ d, CTR G l d (run PR N d)
  | 0 => fun z av σ o τ ad h => by cases h
  | d + 1 => fun z av σ o τ ad h hz hav hlen => by
    have ih := ctr_all hl hT hTHR hTXT N d
    have hTz := hT z hz
    have hmo : ∀ z, z < 374 → MOK z := fun z hz => (hT z hz).1
    obtain ⟨o1, o2, o3, o4, o5, o6, o7, o8, o9, o10⟩ := hTz.1
    have hmx := hTz.2.1
    by_cases hh : mHh z = []
    · refine vx_ofW (cc := mBy z) (maxL := mMx z) (ret := mRt z) o5 (ws' := LTg) (by rw [mWd_c hh]) (fun p e s m args below meth c s₁ B hml hout hP => ?_)
      have hts0 : ∀ w ∈ (mWd z :: LTg), w.before args s = true := atoms_spec (ws := mWd z :: LTg) B.pre
      refine body_go hl hTz hmo hTHR hTXT ih (oGe.run PR N d) h hav hlen B.exec B.bytes hml (findClass_of_methodNamed B.named) (fun w hw => hts0 w (List.mem_cons_of_mem _ hw)) (name_of_methodNamed B.named B.method).1 B.returns B.notSynchronized ?_ hP
      rw [hh]
      exact List.eq_nil_iff_forall_not_mem.mpr fun x hx => hout x hx
    · refine vx_ofWH (cc := mBy z) (maxL := mMx z) (ret := mRt z) (hh := mHh z) o5 (ws' := LTg) (by rw [mWd_w hh]) (fun p e s m args below meth c s₁ B hml hP => ?_)
      have hts0 : ∀ w ∈ (mWd z :: LTg), w.before args s = true := atoms_spec (ws := mWd z :: LTg) B.pre
      have hcw := hts0 _ List.mem_cons_self
      rw [mWd_w hh] at hcw
      exact body_go hl hTz hmo hTHR hTXT ih (oGe.run PR N d) h hav hlen B.exec B.bytes hml (findClass_of_methodNamed B.named) (fun w hw => hts0 w (List.mem_cons_of_mem _ hw)) (name_of_methodNamed B.named B.method).1 B.returns B.notSynchronized (vx_table (x := mNm z) B hcw) hP
end RUN
