/-! SOUNDNESS OF A STEP, the fourth part: fields, new objects, switches -/
section SND
variable {G : GP} {y d : Nat} {p : Program} {l : Launch} {e : Env} {R : Room} {s : State} {m : MethodId} {args : Array Value} {below : List Frame} {meth : Method} {c : Code} {Q : State → Prop} {n0 c0 w0 : Nat} {ad0 : Nat → Nat} {o : Option Value ⊕ Nat} {τ : HS} {M : Nat → DI} {wp : Nat → Nat}
theorem getC_lt {ci : Nat} {r : vw_C} (h : getC ci = some r) : ci < 13 := (List.getElem?_eq_some_iff.mp h).1
theorem cls_in {ci : Nat} {r : vw_C} (h : getC ci = some r) : ∀ w ∈ u_ws r.1 r.2.1 r.2.2, w ∈ LTg := fun w hw => List.mem_filter.mpr ((cls_at ci r h).2.2.1 w hw)
/-- what the check says of a field's instruction -/
theorem okF_ok {i k : Nat} {put : Bool} {pc : Nat} {ins : Instr} {ci f t fn : Nat} {q : List Nat} {c0 : Int32} (h : okF y M wp i k put = true) (hM : M i = (pc, ins, ci :: f :: t :: fn :: q, c0)) : ∃ (C : String) (T : u_T) (N : Nat), getC ci = some (C, T, N) ∧ f < N ∧ (Cond.fieldLink (mNm y).cls k C (T f).2.1 (T f).2.2.1 ∈ LTg ∨ (Cond.fieldLinkNest (mNm y).cls k C (T f).2.1 (T f).2.2.1 "HoopFair" ∈ lw_tbl ∧ (put = true → fn = 0))) ∧ C = (T f).1 ∧ isRf ci f = decide (t = 2) ∧
    (put = true → ((T f).2.2.2 = decide (fn = 1) ∧ (fn = 0 ∨ (mNm y).name = "<init>" ∧ (T f).1 = (mNm y).cls)) ∧ ((t = 0 ∧ parseFieldDescriptor (T f).2.2.1 = some .int) ∨ (t = 1 ∧ parseFieldDescriptor (T f).2.2.1 = some .boolean) ∨ (t = 2 ∧ isRT (parseFieldDescriptor (T f).2.2.1) = true))) := by
  unfold okF at h
  rw [hM] at h
  rcases q with _ | ⟨q0, q⟩
  · dsimp only at h
    cases hg : getC ci with
    | none => rw [hg] at h; cases h
    | some r =>
      obtain ⟨C, T, N⟩ := r
      rw [hg] at h
      dsimp only at h
      rw [Bool.and_eq_true, Bool.and_eq_true, Bool.and_eq_true, Bool.and_eq_true, Bool.or_eq_true, Bool.and_eq_true] at h
      obtain ⟨⟨⟨⟨h1, h2⟩, h3⟩, h4⟩, h5⟩ := h
      refine ⟨C, T, N, rfl, of_decide_eq_true h1, ?_, of_decide_eq_true h3, of_decide_eq_true h4, ?_⟩
      · rcases h2 with h2 | ⟨h2, h6⟩
        · exact Or.inl (wdI_ok h2)
        · refine Or.inr ⟨wnI_ok h2, fun hp => ?_⟩
          rw [hp] at h6
          simpa using h6
      · intro hp
        rw [hp] at h5
        dsimp only [cond_true] at h5
        rw [Bool.and_eq_true, Bool.and_eq_true, Bool.or_eq_true, Bool.and_eq_true] at h5
        obtain ⟨⟨g1, g2⟩, g3⟩ := h5
        refine ⟨⟨of_decide_eq_true g1, ?_⟩, ?_⟩
        · rcases g2 with g2 | ⟨g2, g4⟩
          · exact Or.inl (of_decide_eq_true g2)
          · exact Or.inr ⟨of_decide_eq_true g2, of_decide_eq_true g4⟩
        · rcases t with _ | _ | _ | t
          · exact Or.inl ⟨rfl, of_decide_eq_true g3⟩
          · exact Or.inr (Or.inl ⟨rfl, of_decide_eq_true g3⟩)
          · exact Or.inr (Or.inr ⟨rfl, g3⟩)
          · cases g3
  · cases h
theorem u2_nk {α : Type} {f : Nat → Nat → α} {o k a j : Nat} {v : α} (h : j ≠ k) : u2 f o k v a j = f a j := by
  unfold u2
  rw [if_neg (fun q => h q.2)]
theorem u2_eq {α : Type} {f : Nat → Nat → α} {o k : Nat} {v : α} : u2 f o k v o k = v := by
  unfold u2
  rw [if_pos ⟨rfl, rfl⟩]
def gfv (σ : HS) (a f t : Nat) : Value := match t with
  | 2 => .ref (hR σ a f)
  | _ => .int (hI σ a f)
theorem isRT_rz {t : Option FieldType} (h : isRT t = true) : ∃ ty, t = some ty ∧ ∀ (ad : Nat → Nat) (r : Nat), narrow ty (rz ad (.ref r)) = rz ad (.ref r) ∧ fits ty (rz ad (.ref r)) = true := by
  unfold isRT at h
  split at h
  · refine ⟨_, rfl, fun ad r => ?_⟩
    show narrow _ (va_rf (rfo ad r)) = va_rf (rfo ad r) ∧ fits _ (va_rf (rfo ad r)) = true
    cases rfo ad r <;> exact ⟨rfl, rfl⟩
  · refine ⟨_, rfl, fun ad r => ?_⟩
    show narrow _ (va_rf (rfo ad r)) = va_rf (rfo ad r) ∧ fits _ (va_rf (rfo ad r)) = true
    cases rfo ad r <;> exact ⟨rfl, rfl⟩
  · cases h

set_option maxHeartbeats 1000000 in
theorem sd_getfield {k : KK} {i : Nat} {ls st : List Value} {σ : HS} {cl : CL} {pc : Nat} {n : Nat} {ps : List Nat} {c1 : Int32} (B : Bse G y d p l R s m args meth c) (KS : KSt G y p l e R s m args below meth c Q n0 c0 w0 ad0 M o τ k) (hM : M i = (pc, (.getfield n), ps, c1)) (hok : okI y M wp i = true) (h : stepG cl k (pc, (.getfield n), ps, c1) i ls st σ = some (o, τ)) : Go G y p l e R s m args below meth c Q n0 c0 w0 ad0 M i ls st σ := by
  intro ad H locs cells slots S I
  obtain ⟨hx, hb, hml, hown, hts, hE, hnm, hrt, hlk, htab, hst, hRf, hRl⟩ := B
  unfold okI at hok
  rw [hM] at hok ⊢
  dsimp only at hok ⊢
  rw [Bool.and_eq_true] at hok
  obtain ⟨hd, hn⟩ := dcI_ok hok.1 hM
  obtain ⟨ci, f, t, fn, q, e9, h1⟩ := p4_inv h
  clear h
  subst e9
  obtain ⟨a, r, e2, h2⟩ := s1r_inv h1
  clear h1
  subst e2
  obtain ⟨hc, h⟩ := cond_inv h2
  clear h2
  have hk := of_decide_eq_true hc
  obtain ⟨C, T, N, hg, hf, hl, hC, hrf, -⟩ := okF_ok hok.2 hM
  have R0 := I.2.2.2.1
  have hci := getC_lt hg
  obtain ⟨a1, a2, hw⟩ := R0.cell hk (Or.inl hci)
  rw [ent_c hk hci] at hw
  have hfv := flds_at (σ := σ) (ad := ad) (a := a) (show f < nf ci by rw [nf_of hg]; exact hf)
  have hin := cls_in hg
  show W p l e R s m args below meth c H locs cells slots Q (F0 m pc S (rz ad (.ref a) :: r.map (rz ad)))
  rw [rz_ref1 (refne R0 hk (by omega))]
  have h : k (i + 1) ls (gfv σ a f t :: r) σ = some (o, τ) := h
  have key : ∀ v : Value, (flds σ ad ci a)[f]? = some v → v = rz ad (gfv σ a f t) → W p l e R s m args below meth c H locs cells slots Q (F0 m (pc + 3) S (v :: r.map (rz ad))) := fun v hv ev => by
    subst ev
    rw [← hn]
    refine (KS _ _ _ _ h).2 _ _ _ _ _ _ (I.tl.cons ?_ ?_)
    · unfold gfv
      split
      · exact R0.1.2.2.2.2.2.2.1 _ _
      · trivial
    · unfold gfv
      split <;> rfl
  have hv2 : (if isRf ci f = true then va_rf (rfo ad (hR σ a f)) else .int (hI σ a f)) = rz ad (gfv σ a f t) := by
    rw [hrf]
    by_cases ht : t = 2
    · subst ht
      rfl
    · rw [decide_eq_false ht]
      unfold gfv
      split
      · rename_i hx; cases hx
      · split
        · exact absurd rfl ht
        · rfl
  rcases hl with hl | ⟨hl, -⟩
  · exact va_get hx hb hts hin hown hE.1 R0.2.1 (a - 79) hw hg f hf (hts _ hl) (fun x hx2 => by rw [hC]; exact hx2) hfv hd (key _ hfv hv2)
  · exact va_getN hx hb hts hin hown hE.1 R0.2.1 (a - 79) hw hg f hf (va_Nw.use rfl (hE.2.1 _ hl rfl)) (fun x hx2 => by rw [hC]; exact hx2) hfv hd (key _ hfv hv2)
set_option maxHeartbeats 1000000 in
theorem sd_putfield {k : KK} {i : Nat} {ls st : List Value} {σ : HS} {cl : CL} {pc : Nat} {n : Nat} {ps : List Nat} {c1 : Int32} (B : Bse G y d p l R s m args meth c) (KS : KSt G y p l e R s m args below meth c Q n0 c0 w0 ad0 M o τ k) (hM : M i = (pc, (.putfield n), ps, c1)) (hok : okI y M wp i = true) (h : stepG cl k (pc, (.putfield n), ps, c1) i ls st σ = some (o, τ)) : Go G y p l e R s m args below meth c Q n0 c0 w0 ad0 M i ls st σ := by
  intro ad H locs cells slots S I
  obtain ⟨hx, hb, hml, hown, hts, hE, hnm, hrt, hlk, htab, hst, hRf, hRl⟩ := B
  unfold okI at hok
  rw [hM] at hok ⊢
  dsimp only at hok ⊢
  rw [Bool.and_eq_true] at hok
  obtain ⟨hd, hn⟩ := dcI_ok hok.1 hM
  obtain ⟨ci, f, t, fn, q, e9, h1⟩ := p4_inv h
  clear h
  subst e9
  rcases t with _ | _ | _ | t
  · obtain ⟨x, r1, e1, h2⟩ := s1i_inv h1
    obtain ⟨a, r, e2, h3⟩ := s1r_inv h2
    clear h1 h2
    subst e2; subst e1
    obtain ⟨hc, h⟩ := cond_inv h3
    clear h3
    have hk := of_decide_eq_true hc
    obtain ⟨C, T, N, hg, hf, hl, hC, hrf, hp⟩ := okF_ok hok.2 hM
    obtain ⟨⟨hfin, hfi⟩, hty⟩ := hp rfl
    have R0 := I.2.2.2.1
    have hci := getC_lt hg
    obtain ⟨a1, a2, hw⟩ := R0.cell hk (Or.inl hci)
    rw [ent_c hk hci] at hw
    have hin := cls_in hg
    have hfn : f < nf ci := by rw [nf_of hg]; exact hf
    have hlen : f < (flds σ ad ci a).length := by unfold flds; simp; exact hfn
    obtain ⟨⟨ty0, hty0, -⟩, hnm2, -⟩ := cls_at ci _ hg
    have he : ent G.2.1 (sI σ a f x) ad a = .inr (ci, (flds σ ad ci a).set f (.int x)) := by
      rw [ent_c (σ := sI σ a f x) hk hci]
      refine congrArg (fun z => Sum.inr (ci, z)) (flds_set hfn (fun j hj => ?_) ?_)
      · show (if isRf ci j = true then va_rf (rfo ad (hR σ a j)) else Value.int (u2 (hI σ) a f x a j)) = _
        rw [u2_nk hj]
      · rw [hrf, if_neg (by decide)]
        exact congrArg Value.int u2_eq
    have hdn : ∃ ty, parseFieldDescriptor (T f).2.2.1 = some ty ∧ narrow ty (.int x) = (.int x) ∧ fits ty (.int x) = true := by
      rcases hty with ⟨-, hz⟩ | ⟨hz, -⟩ | ⟨hz, -⟩
      · exact ⟨_, hz, rfl, rfl⟩
      · omega
      · omega
    obtain ⟨ty, hty1, hnar, hfit⟩ := hdn
    show W p l e R s m args below meth c H locs cells slots Q (F0 m pc S (.int x :: rz ad (.ref a) :: r.map (rz ad)))
    rw [rz_ref1 (refne R0 hk (by omega))]
    have key : ∀ (H1 : Heap) (locs1 : List Loc), va_P (gD G) vwCl ((wsL G.2.1 σ ad).set (a - 79) (ad a, .inr (ci, (flds σ ad ci a).set f (.int x)))) H1 → va_D (gAx G) ((wsL G.2.1 σ ad).set (a - 79) (ad a, .inr (ci, (flds σ ad ci a).set f (.int x)))) → va_S (gAx G) s.heap H1 locs1 → W p l e R s m args below meth c H1 locs1 cells slots Q (F0 m (pc + 3) S (r.map (rz ad))) := fun H1 locs1 hP1 hD1 hS1 => by
      rw [← hn]
      exact (KS _ _ _ _ h).2 _ _ _ _ _ _ ⟨I.1, I.2.1, I.tl.tl.2.2.1, R0.put (σ1 := sI σ a f x) (R0.1.sI a1) rfl a1 a2 (fun q hq => ent_congr rfl rfl (u2_ne hq) rfl (fun _ => rfl)) he hP1 hD1, hS1, I.2.2.2.2.2⟩
    rcases hl with hl | ⟨hl, hl0⟩
    · by_cases hfz : fn = 1
      · have hi := hfi.resolve_left (by omega)
        exact va_putF hx hb hts hin ty0 hty0 hnm2 hown hE.1 R0.2.1 R0.2.2.1 I.2.2.2.2.1 (a - 79) hw hg f hf (hts _ hl) (fun x hx2 => by rw [hC]; exact hx2) (by rw [hfin]; exact decide_eq_true hfz) (by rw [hnm]; exact hi.1) hi.2 hty1 hnar hfit hlen hd key
      · exact va_put hx hb hts hin ty0 hty0 hnm2 hown hE.1 R0.2.1 R0.2.2.1 I.2.2.2.2.1 (a - 79) hw hg f hf (hts _ hl) (fun x hx2 => by rw [hC]; exact hx2) (by rw [hfin]; exact decide_eq_false hfz) hty1 hnar hfit hlen hd key
    · exact va_putN hx hb hts hin ty0 hty0 hnm2 hown hE.1 R0.2.1 R0.2.2.1 I.2.2.2.2.1 (a - 79) hw hg f hf (va_Nw.use rfl (hE.2.1 _ hl rfl)) (fun x hx2 => by rw [hC]; exact hx2) (by rw [hfin, hl0 rfl]; rfl) hty1 hnar hfit hlen hd key
  · obtain ⟨x, r1, e1, h2⟩ := s1i_inv h1
    obtain ⟨a, r, e2, h3⟩ := s1r_inv h2
    clear h1 h2
    subst e2; subst e1
    obtain ⟨hc, h⟩ := cond_inv h3
    clear h3
    rw [Bool.and_eq_true] at hc
    have hk := of_decide_eq_true hc.1
    have hb01 := hc.2
    rw [Bool.or_eq_true, decide_eq_true_eq, decide_eq_true_eq] at hb01
    obtain ⟨C, T, N, hg, hf, hl, hC, hrf, hp⟩ := okF_ok hok.2 hM
    obtain ⟨⟨hfin, hfi⟩, hty⟩ := hp rfl
    have R0 := I.2.2.2.1
    have hci := getC_lt hg
    obtain ⟨a1, a2, hw⟩ := R0.cell hk (Or.inl hci)
    rw [ent_c hk hci] at hw
    have hin := cls_in hg
    have hfn : f < nf ci := by rw [nf_of hg]; exact hf
    have hlen : f < (flds σ ad ci a).length := by unfold flds; simp; exact hfn
    obtain ⟨⟨ty0, hty0, -⟩, hnm2, -⟩ := cls_at ci _ hg
    have he : ent G.2.1 (sI σ a f x) ad a = .inr (ci, (flds σ ad ci a).set f (.int x)) := by
      rw [ent_c (σ := sI σ a f x) hk hci]
      refine congrArg (fun z => Sum.inr (ci, z)) (flds_set hfn (fun j hj => ?_) ?_)
      · show (if isRf ci j = true then va_rf (rfo ad (hR σ a j)) else Value.int (u2 (hI σ) a f x a j)) = _
        rw [u2_nk hj]
      · rw [hrf, if_neg (by decide)]
        exact congrArg Value.int u2_eq
    have hdn : ∃ ty, parseFieldDescriptor (T f).2.2.1 = some ty ∧ narrow ty (.int x) = (.int x) ∧ fits ty (.int x) = true := by
      rcases hty with ⟨hz, -⟩ | ⟨-, hz⟩ | ⟨hz, -⟩
      · omega
      · refine ⟨_, hz, ?_⟩
        rcases hb01 with rfl | rfl <;> exact ⟨by decide +kernel, by decide +kernel⟩
      · omega
    obtain ⟨ty, hty1, hnar, hfit⟩ := hdn
    show W p l e R s m args below meth c H locs cells slots Q (F0 m pc S (.int x :: rz ad (.ref a) :: r.map (rz ad)))
    rw [rz_ref1 (refne R0 hk (by omega))]
    have key : ∀ (H1 : Heap) (locs1 : List Loc), va_P (gD G) vwCl ((wsL G.2.1 σ ad).set (a - 79) (ad a, .inr (ci, (flds σ ad ci a).set f (.int x)))) H1 → va_D (gAx G) ((wsL G.2.1 σ ad).set (a - 79) (ad a, .inr (ci, (flds σ ad ci a).set f (.int x)))) → va_S (gAx G) s.heap H1 locs1 → W p l e R s m args below meth c H1 locs1 cells slots Q (F0 m (pc + 3) S (r.map (rz ad))) := fun H1 locs1 hP1 hD1 hS1 => by
      rw [← hn]
      exact (KS _ _ _ _ h).2 _ _ _ _ _ _ ⟨I.1, I.2.1, I.tl.tl.2.2.1, R0.put (σ1 := sI σ a f x) (R0.1.sI a1) rfl a1 a2 (fun q hq => ent_congr rfl rfl (u2_ne hq) rfl (fun _ => rfl)) he hP1 hD1, hS1, I.2.2.2.2.2⟩
    rcases hl with hl | ⟨hl, hl0⟩
    · by_cases hfz : fn = 1
      · have hi := hfi.resolve_left (by omega)
        exact va_putF hx hb hts hin ty0 hty0 hnm2 hown hE.1 R0.2.1 R0.2.2.1 I.2.2.2.2.1 (a - 79) hw hg f hf (hts _ hl) (fun x hx2 => by rw [hC]; exact hx2) (by rw [hfin]; exact decide_eq_true hfz) (by rw [hnm]; exact hi.1) hi.2 hty1 hnar hfit hlen hd key
      · exact va_put hx hb hts hin ty0 hty0 hnm2 hown hE.1 R0.2.1 R0.2.2.1 I.2.2.2.2.1 (a - 79) hw hg f hf (hts _ hl) (fun x hx2 => by rw [hC]; exact hx2) (by rw [hfin]; exact decide_eq_false hfz) hty1 hnar hfit hlen hd key
    · exact va_putN hx hb hts hin ty0 hty0 hnm2 hown hE.1 R0.2.1 R0.2.2.1 I.2.2.2.2.1 (a - 79) hw hg f hf (va_Nw.use rfl (hE.2.1 _ hl rfl)) (fun x hx2 => by rw [hC]; exact hx2) (by rw [hfin, hl0 rfl]; rfl) hty1 hnar hfit hlen hd key
  · obtain ⟨x, r1, e1, h2⟩ := s1r_inv h1
    obtain ⟨a, r, e2, h3⟩ := s1r_inv h2
    clear h1 h2
    subst e2; subst e1
    obtain ⟨hc, h⟩ := cond_inv h3
    clear h3
    have hk := of_decide_eq_true hc
    have hxl : x < hN σ := (I.2.2.1 _ List.mem_cons_self).1
    obtain ⟨C, T, N, hg, hf, hl, hC, hrf, hp⟩ := okF_ok hok.2 hM
    obtain ⟨⟨hfin, hfi⟩, hty⟩ := hp rfl
    have R0 := I.2.2.2.1
    have hci := getC_lt hg
    obtain ⟨a1, a2, hw⟩ := R0.cell hk (Or.inl hci)
    rw [ent_c hk hci] at hw
    have hin := cls_in hg
    have hfn : f < nf ci := by rw [nf_of hg]; exact hf
    have hlen : f < (flds σ ad ci a).length := by unfold flds; simp; exact hfn
    obtain ⟨⟨ty0, hty0, -⟩, hnm2, -⟩ := cls_at ci _ hg
    have he : ent G.2.1 (sR σ a f x) ad a = .inr (ci, (flds σ ad ci a).set f (rz ad (.ref x))) := by
      rw [ent_c (σ := sR σ a f x) hk hci]
      refine congrArg (fun z => Sum.inr (ci, z)) (flds_set hfn (fun j hj => ?_) ?_)
      · show (if isRf ci j = true then va_rf (rfo ad (u2 (hR σ) a f x a j)) else Value.int (hI σ a j)) = _
        rw [u2_nk hj]
      · rw [hrf, if_pos (by decide)]
        show va_rf (rfo ad (u2 (hR σ) a f x a f)) = _
        rw [u2_eq]
        rfl
    have hdn : ∃ ty, parseFieldDescriptor (T f).2.2.1 = some ty ∧ narrow ty (rz ad (.ref x)) = (rz ad (.ref x)) ∧ fits ty (rz ad (.ref x)) = true := by
      rcases hty with ⟨hz, -⟩ | ⟨hz, -⟩ | ⟨-, hz⟩
      · omega
      · omega
      · obtain ⟨ty, g1, g2⟩ := isRT_rz hz
        exact ⟨ty, g1, (g2 ad x).1, (g2 ad x).2⟩
    obtain ⟨ty, hty1, hnar, hfit⟩ := hdn
    show W p l e R s m args below meth c H locs cells slots Q (F0 m pc S (rz ad (.ref x) :: rz ad (.ref a) :: r.map (rz ad)))
    rw [rz_ref1 (refne R0 hk (by omega))]
    have key : ∀ (H1 : Heap) (locs1 : List Loc), va_P (gD G) vwCl ((wsL G.2.1 σ ad).set (a - 79) (ad a, .inr (ci, (flds σ ad ci a).set f (rz ad (.ref x))))) H1 → va_D (gAx G) ((wsL G.2.1 σ ad).set (a - 79) (ad a, .inr (ci, (flds σ ad ci a).set f (rz ad (.ref x))))) → va_S (gAx G) s.heap H1 locs1 → W p l e R s m args below meth c H1 locs1 cells slots Q (F0 m (pc + 3) S (r.map (rz ad))) := fun H1 locs1 hP1 hD1 hS1 => by
      rw [← hn]
      exact (KS _ _ _ _ h).2 _ _ _ _ _ _ ⟨I.1, I.2.1, I.tl.tl.2.2.1, R0.put (σ1 := sR σ a f x) (R0.1.sR hxl) rfl a1 a2 (fun q hq => ent_congr rfl rfl rfl rfl (fun b => by
        show rfo ad (u2 (hR σ) a f x q b) = _
        rw [u2_ne hq])) he hP1 hD1, hS1, I.2.2.2.2.2⟩
    rcases hl with hl | ⟨hl, hl0⟩
    · by_cases hfz : fn = 1
      · have hi := hfi.resolve_left (by omega)
        exact va_putF hx hb hts hin ty0 hty0 hnm2 hown hE.1 R0.2.1 R0.2.2.1 I.2.2.2.2.1 (a - 79) hw hg f hf (hts _ hl) (fun x hx2 => by rw [hC]; exact hx2) (by rw [hfin]; exact decide_eq_true hfz) (by rw [hnm]; exact hi.1) hi.2 hty1 hnar hfit hlen hd key
      · exact va_put hx hb hts hin ty0 hty0 hnm2 hown hE.1 R0.2.1 R0.2.2.1 I.2.2.2.2.1 (a - 79) hw hg f hf (hts _ hl) (fun x hx2 => by rw [hC]; exact hx2) (by rw [hfin]; exact decide_eq_false hfz) hty1 hnar hfit hlen hd key
    · exact va_putN hx hb hts hin ty0 hty0 hnm2 hown hE.1 R0.2.1 R0.2.2.1 I.2.2.2.2.1 (a - 79) hw hg f hf (va_Nw.use rfl (hE.2.1 _ hl rfl)) (fun x hx2 => by rw [hC]; exact hx2) (by rw [hfin, hl0 rfl]; rfl) hty1 hnar hfit hlen hd key
  · obtain ⟨C, T, N, hg, hf, hl, hC, hrf, hp⟩ := okF_ok hok.2 hM
    obtain ⟨-, hty⟩ := hp rfl
    omega
end SND
