/-! SOUNDNESS OF A STEP, the fifth part: what is made; casts; switches -/
section SND
variable {G : GP} {y d : Nat} {p : Program} {l : Launch} {e : Env} {R : Room} {s : State} {m : MethodId} {args : Array Value} {below : List Frame} {meth : Method} {c : Code} {Q : State → Prop} {n0 c0 w0 : Nat} {ad0 : Nat → Nat} {o : Option Value ⊕ Nat} {τ : HS} {M : Nat → DI} {wp : Nat → Nat}
theorem ac_int : Cond.arrayClass .int ∈ LTg := wdI_ok (p := 185) (by decide +kernel)
theorem ac_bool : Cond.arrayClass .boolean ∈ LTg := wdI_ok (p := 1881) (by decide +kernel)
theorem ac_long : Cond.arrayClass .long ∈ LTg := wdI_ok (p := 2378) (by decide +kernel)

theorem u1_ne {α : Type} {f : Nat → α} {o a : Nat} {v : α} (h : a ≠ o) : u1 f o v a = f a := by
  unfold u1
  rw [if_neg h]
theorem u1_eq {α : Type} {f : Nat → α} {o : Nat} {v : α} : u1 f o v o = v := by
  unfold u1
  rw [if_pos rfl]
/-- an object more, whatever its slots -/
theorem wfSx.more {tx : Nat → List Int32} {L : Nat} {xs : Nat → Int32} {σ σ1 : HS} {kd : Nat} (h : wfSx tx L xs σ) (hn : hN σ1 = hN σ + 1) (hk : hK σ1 = u1 (hK σ) (hN σ) kd) (hkd : kOK kd) (hl : ∀ o, o ≠ hN σ → hL σ1 o = hL σ o) (hi : ∀ o, o ≠ hN σ → hI σ1 o = hI σ o) (hr : hR σ1 = u1 (hR σ) (hN σ) (fun _ => 0)) : wfSx tx L xs σ1 := by
  obtain ⟨h1, h2, h3, h4, h5, h6, h7, h8, h9, h10⟩ := h
  refine ⟨by omega, ?_, fun k k1 k2 => ?_, ?_, fun q q1 q2 => ?_, fun q q1 => ?_, fun q j => ?_, fun k k1 k2 => ⟨?_, fun j hj => ?_⟩, ?_, fun j hj => ?_⟩
  · rw [hk, u1_ne (by omega)]; exact h2
  · rw [hk, u1_ne (by omega)]; exact h3 k k1 k2
  · rw [hk, u1_ne (by omega)]; exact h4
  · rw [hk]
    by_cases hq : q = hN σ
    · subst hq; rw [u1_eq]; exact hkd
    · rw [u1_ne hq]; exact h5 q q1 (by omega)
  · rw [hk, u1_ne (by omega)]; exact h6 q (by omega)
  · rw [hr, hn]
    by_cases hq : q = hN σ
    · subst hq; rw [u1_eq]; omega
    · rw [u1_ne hq]; have := h7 q j; omega
  · rw [hl k (by omega)]; exact (h8 k k1 k2).1
  · rw [hi k (by omega)]; exact (h8 k k1 k2).2 j hj
  · rw [hl 78 (by omega)]; exact h9
  · rw [hi 78 (by omega)]; exact h10 j hj
theorem RelH.push {σ σ1 : HS} {ad : Nat → Nat} {H H1 : Heap} {kd q : Nat} (h : RelH txT G σ ad H) (hn : hN σ1 = hN σ + 1) (hk : hK σ1 = u1 (hK σ) (hN σ) kd) (hkd : kOK kd) (hl : ∀ o, o ≠ hN σ → hL σ1 o = hL σ o) (hi : ∀ o, o ≠ hN σ → hI σ1 o = hI σ o) (hj : ∀ o, o ≠ hN σ → hJ σ1 o = hJ σ o) (hr : hR σ1 = u1 (hR σ) (hN σ) (fun _ => 0)) {en : va_E} (he : ent G.2.1 σ1 (u1 ad (hN σ) q) (hN σ) = en)
    (hP1 : va_P (gD G) vwCl (wsL G.2.1 σ ad ++ [(q, en)]) H1) (hD1 : va_D (gAx G) (wsL G.2.1 σ ad ++ [(q, en)])) : RelH txT G σ1 (u1 ad (hN σ) q) H1 := by
  have h79 := h.1.1
  rw [wsL_push (σ' := σ1) (ad' := u1 ad (hN σ) q) hn h79 (fun o ho => ent_congr (by rw [hk, u1_ne (by omega)]) (hl o (by omega)) (hi o (by omega)) (hj o (by omega)) (fun j => by
    rw [hr, u1_ne (by omega)]
    unfold rfo
    rw [u1_ne (by have := h.1.2.2.2.2.2.2.1 o j; omega)])) (fun o ho => u1_ne (by omega)) u1_eq he] at hP1 hD1
  exact ⟨h.1.more hn hk hkd hl hi hr, hP1, hD1, fun k hk2 => by rw [u1_ne (by omega)]; exact h.2.2.2 k hk2⟩
theorem Inv.alloc {σ σ1 : HS} {ls st : List Value} {ad : Nat → Nat} {H H1 : Heap} {locs : List Loc} {cells slots w q : Nat} {S : Array Slot} (I : Inv G y s n0 c0 w0 ad0 σ ls st ad H locs cells slots S) (hR1 : RelH txT G σ1 (u1 ad (hN σ) q) H1) (hn : hN σ1 = hN σ + 1) (hc : hC σ1 = hC σ + 1) (hw : hW σ1 = hW σ + w) (hS1 : va_S (gAx G) s.heap H1 locs) : Inv G y s n0 c0 w0 ad0 σ1 ls (.ref (hN σ) :: st) (u1 ad (hN σ) q) H1 locs (cells + 1) (slots + w) S := by
  obtain ⟨i1, i2, i3, i4, i5, i6, i7, i8, i9⟩ := I
  have ha : ∀ k, k < hN σ → u1 ad (hN σ) q k = ad k := fun k hk => u1_ne (by omega)
  refine ⟨i1.up (by omega) ha, i2, fun v hv => ?_, hR1, hS1, fun k hk => by rw [ha k (by omega)]; exact i6 k hk, by omega, by omega, by omega⟩
  rcases List.mem_cons.mp hv with rfl | hv
  · exact ⟨show hN σ < hN σ1 by omega, rfl⟩
  · exact ⟨vok_up (i3 v hv).1 (by omega), (i3 v hv).2⟩
theorem alloc_st {σ : HS} {ls st : List Value} {ad : Nat → Nat} {H : Heap} {locs : List Loc} {cells slots q : Nat} {S : Array Slot} (I : Inv G y s n0 c0 w0 ad0 σ ls st ad H locs cells slots S) : (Value.ref (hN σ) :: st).map (rz (u1 ad (hN σ) q)) = .ref q :: st.map (rz ad) := by
  have h79 := I.2.2.2.1.1.1
  rw [List.map_cons, rz_ref1 (by omega), u1_eq, map_up (n := hN σ) I.2.2.1 (fun k hk => u1_ne (by omega))]
theorem arr_uniq {tys : List (ClassId × FieldType)} {cA cB : ClassId} {ty : FieldType} {k j : Nat} (h : va_K (gD G) vwCl tys s) (h1 : tys[k]? = some (cA, ty)) (h2 : tys[j]? = some (cB, ty)) : cA = cB := by
  have a1 := (h.2 k _ h1).2
  have a2 := (h.2 j _ h2).2
  cases ty with
  | object C =>
    obtain ⟨_, _, _, _, _, e1⟩ := a1
    obtain ⟨_, _, _, _, _, e2⟩ := a2
    exact Option.some.inj (e1.symm.trans e2)
  | _ => exact Option.some.inj (a1.symm.trans a2)
theorem tsw_inv {x : Int32} {dd : Nat} {f : Nat → Option Res} {q : Res} : ∀ (ts : List Nat) (v : Int32), 0 ≤ v.toInt → v.toInt + ts.length < 2000 → tsw ts v x dd f = some q → (∃ (j t : Nat), ts[j]? = some t ∧ x.toInt = v.toInt + j ∧ f t = some q) ∨ ((x.toInt < v.toInt ∨ v.toInt + ts.length ≤ x.toInt) ∧ f dd = some q)
  | [], v, h0, h1, h => by
    refine Or.inr ⟨?_, h⟩
    simp only [List.length_nil]
    omega
  | t :: ts, v, h0, h1, h => by
    have hl : (List.length (t :: ts) : Int) = ts.length + 1 := by simp
    have h2 : cond (decide (x = v)) (f t) (tsw ts (v + 1) x dd f) = some q := h
    have hv1 : (v + 1).toInt = v.toInt + 1 := by
      rw [Int32.toInt_add]
      have : (1 : Int32).toInt = 1 := by decide
      rw [this]
      rw [Int.bmod_eq_of_le (by omega) (by omega)]
    by_cases hx : x = v
    · rw [decide_eq_true hx] at h2
      exact Or.inl ⟨0, t, rfl, by subst hx; simp, h2⟩
    · rw [decide_eq_false hx] at h2
      have hne : x.toInt ≠ v.toInt := fun e => hx (Int32.toInt_inj.mp e)
      rcases tsw_inv ts (v + 1) (by omega) (by omega) h2 with ⟨j, t2, g1, g2, g3⟩ | ⟨g1, g2⟩
      · exact Or.inl ⟨j + 1, t2, g1, by rw [g2, hv1]; push_cast; omega, g3⟩
      · refine Or.inr ⟨?_, g2⟩
        rw [hv1] at g1
        omega
theorem tgL_at {pc i : Nat} {ins : Instr} {ps : List Nat} {cc : Int32} (hM : M i = (pc, ins, ps, cc)) : ∀ (ts : List Nat) (os : List Int), tgL M i ts os = true → ts.length = os.length ∧ ∀ (j t : Nat), ts[j]? = some t → ∃ off, os[j]? = some off ∧ (pc : Int) + off = ((M t).1 : Int)
  | [], [], _ => ⟨rfl, fun j t h => by simp at h⟩
  | t :: ts, o :: os, h => by
    unfold tgL at h
    rw [Bool.and_eq_true] at h
    obtain ⟨g1, g2⟩ := tgL_at hM ts os h.2
    refine ⟨by simp [g1], fun j t2 h2 => ?_⟩
    cases j with
    | zero => cases h2; exact ⟨o, rfl, tgI_ok h.1 hM⟩
    | succ j => exact g2 j t2 h2
  | [], _ :: _, h => by cases h
  | _ :: _, [], h => by cases h

set_option maxHeartbeats 1000000 in
theorem sd_newobj {k : KK} {i : Nat} {ls st : List Value} {σ : HS} {cl : CL} {pc : Nat} {n ci nn : Nat} {c1 : Int32} (B : Bse G y d p l R s m args meth c) (hRc : hC τ ≤ c0 + R.cells) (hRs : hW τ ≤ w0 + R.slots) (KS : KSt G y p l e R s m args below meth c Q n0 c0 w0 ad0 M o τ k) (hM : M i = (pc, (.new n), [ci, nn], c1)) (hok : okI y M wp i = true) (h : stepG cl k (pc, (.new n), [ci, nn], c1) i ls st σ = some (o, τ)) : Go G y p l e R s m args below meth c Q n0 c0 w0 ad0 M i ls st σ := by
  intro ad H locs cells slots S I
  obtain ⟨hx, hb, hml, hown, hts, hE, hnm, hrt, hlk, htab, hst, hRf, hRl⟩ := B
  unfold okI at hok
  rw [hM] at hok ⊢
  dsimp only at hok ⊢
  rw [Bool.and_eq_true] at hok
  obtain ⟨hd, hn⟩ := dcI_ok hok.1 hM
  have h2 := hok.2
  cases hg : getC ci with
  | none => rw [hg] at h2; cases h2
  | some r =>
    obtain ⟨C, T, N⟩ := r
    rw [hg] at h2
    dsimp only at h2
    rw [Bool.and_eq_true, Bool.and_eq_true] at h2
    obtain ⟨⟨g1, g2⟩, g3⟩ := h2
    have hcl := hts _ (wdI_ok g1)
    have hN2 : N = nn := of_decide_eq_true g2
    subst hN2
    have hci := of_decide_eq_true g3
    obtain ⟨⟨ty, hty, hdef⟩, hnm2, hin0, ⟨hi1, hi2⟩, hi3, hi4⟩ := cls_at ci _ hg
    have R0 := I.2.2.2.1
    have h : k (i + 1) ls (.ref (hN σ) :: st) (hMk σ ci 0 N) = some (o, τ) := h
    have K := KS _ _ _ _ h
    have hcC : hC (hMk σ ci 0 N) ≤ hC τ := K.1.2.1
    have hcW : hW (hMk σ ci 0 N) ≤ hW τ := K.1.2.2
    have e1 : hC (hMk σ ci 0 N) = hC σ + 1 := rfl
    have e2 : hW (hMk σ ci 0 N) = hW σ + N := rfl
    have i8 := I.2.2.2.2.2.2.2.1
    have i9 := I.2.2.2.2.2.2.2.2
    have hfl : ∀ q, flds (hMk σ ci 0 N) (u1 ad (hN σ) q) ci (hN σ) = (List.range N).map (fun j => if isRf ci j = true then Value.null else .int 0) := fun q => by
      unfold flds
      rw [nf_of hg]
      refine List.map_congr_left fun j hj => ?_
      show (if isRf ci j = true then va_rf (rfo (u1 ad (hN σ) q) (u1 (hR σ) (hN σ) (fun _ => 0) (hN σ) j)) else Value.int (u1 (hI σ) (hN σ) (fun _ => 0) (hN σ) j)) = _
      rw [u1_eq, u1_eq]
      rfl
    refine va_new (ci := ci) (fs := (List.range N).map (fun j => if isRf ci j = true then Value.null else .int 0)) hx hb hts (cls_in hg) ty hty hown hcl (hts _ (List.mem_filter.mpr ⟨hi1, hi2⟩)) (hts _ (List.mem_filter.mpr ⟨hi3, hi4⟩)) hE.1 R0.2.1 R0.2.2.1 I.2.2.2.2.1 hE.2.2.2.2.2.2.2.2.2.2.2 hg (fun j hj => ?_) (by omega) (show slots + N ≤ R.slots by omega) hd (fun q H1 hP1 hD1 hS1 => ?_)
    · rw [hdef j hj]
      unfold vp_V
      rw [List.getD_eq_getElem?_getD, List.getElem?_map, List.getElem?_range hj]
      rfl
    · have hR1 : RelH txT G (hMk σ ci 0 N) (u1 ad (hN σ) q) H1 := R0.push (kd := ci) rfl rfl (Or.inl hci) (fun o ho => u1_ne ho) (fun o ho => u1_ne ho) (fun o ho => u1_ne ho) rfl (by
        rw [ent_c (σ := hMk σ ci 0 N) (k := ci) u1_eq hci, hfl]) hP1 hD1
      rw [← hn]
      have hgo := K.2 _ _ _ _ _ _ (I.alloc hR1 rfl rfl rfl hS1)
      rw [alloc_st I] at hgo
      exact hgo
set_option maxHeartbeats 1000000 in
theorem sd_newarr_int {k : KK} {i : Nat} {ls st : List Value} {σ : HS} {cl : CL} {pc : Nat} {c1 : Int32} (B : Bse G y d p l R s m args meth c) (hRc : hC τ ≤ c0 + R.cells) (hRs : hW τ ≤ w0 + R.slots) (KS : KSt G y p l e R s m args below meth c Q n0 c0 w0 ad0 M o τ k) (hM : M i = (pc, (.newarray .int), [20], c1)) (hok : okI y M wp i = true) (h : stepG cl k (pc, (.newarray .int), [20], c1) i ls st σ = some (o, τ)) : Go G y p l e R s m args below meth c Q n0 c0 w0 ad0 M i ls st σ := by
  intro ad H locs cells slots S I
  obtain ⟨hx, hb, hml, hown, hts, hE, hnm, hrt, hlk, htab, hst, hRf, hRl⟩ := B
  unfold okI at hok
  rw [hM] at hok ⊢
  dsimp only at hok ⊢
  rw [Bool.and_eq_true] at hok
  obtain ⟨hd, hn⟩ := dcI_ok hok.1 hM
  obtain ⟨x, r, e1, h1⟩ := s1i_inv h
  clear h
  subst e1
  obtain ⟨hc, h⟩ := cond_inv h1
  clear h1
  rw [Bool.and_eq_true] at hc
  have hx0 : (0 : Int32) ≤ x := of_decide_eq_true hc.1
  have hx1 : x.toNatClampNeg ≤ 100000 := of_decide_eq_true hc.2
  have R0 := I.2.2.2.1
  have K := KS _ _ _ _ h
  have hcC : hC (hMk σ 20 x.toNatClampNeg x.toNatClampNeg) ≤ hC τ := K.1.2.1
  have hcW : hW (hMk σ 20 x.toNatClampNeg x.toNatClampNeg) ≤ hW τ := K.1.2.2
  have e1 : hC (hMk σ 20 x.toNatClampNeg x.toNatClampNeg) = hC σ + 1 := rfl
  have e2 : hW (hMk σ 20 x.toNatClampNeg x.toNatClampNeg) = hW σ + x.toNatClampNeg := rfl
  have i8 := I.2.2.2.2.2.2.2.1
  have i9 := I.2.2.2.2.2.2.2.2
  refine va_newa (atype := .int) hx hb (hts _ ac_int) rfl hE.1 R0.2.1 R0.2.2.1 I.2.2.2.2.1 hE.2.2.2.2.2.2.2.2.2.2.2 (N' := x.toNatClampNeg) (a0 := (x.toNatClampNeg, .inl (fun _ => 0))) (fun cA => rfl) (Int32.not_lt.mpr hx0) rfl (Nat.le_trans (Nat.mul_le_mul hx1 (show componentBytes _ ≤ 8 by decide)) (by decide)) (by omega) (by omega) hd (fun q cA H1 hK1 hP1 hD1 hS1 => ?_)
  have hcA : cA = G.2.1.1 := arr_uniq hK1 (k := 4) (j := 0) rfl rfl
  subst hcA
  have hR1 : RelH txT G (hMk σ 20 x.toNatClampNeg x.toNatClampNeg) (u1 ad (hN σ) q) H1 := R0.push (kd := 20) rfl rfl (by unfold kOK; omega) (fun o ho => u1_ne ho) (fun o ho => u1_ne ho) (fun o ho => u1_ne ho) rfl (by
    rw [ent_20 (σ := hMk σ 20 x.toNatClampNeg x.toNatClampNeg) u1_eq]
    show Sum.inl (_, u1 (hL σ) (hN σ) x.toNatClampNeg (hN σ), Sum.inl (u1 (hI σ) (hN σ) (fun _ => 0) (hN σ))) = _
    rw [u1_eq, u1_eq]) hP1 hD1
  rw [← hn]
  have hgo := K.2 _ _ _ _ _ _ (I.tl.alloc hR1 rfl rfl rfl hS1)
  rw [alloc_st I.tl] at hgo
  exact hgo
set_option maxHeartbeats 1000000 in
theorem sd_newarr_long {k : KK} {i : Nat} {ls st : List Value} {σ : HS} {cl : CL} {pc : Nat} {c1 : Int32} (B : Bse G y d p l R s m args meth c) (hRc : hC τ ≤ c0 + R.cells) (hRs : hW τ ≤ w0 + R.slots) (KS : KSt G y p l e R s m args below meth c Q n0 c0 w0 ad0 M o τ k) (hM : M i = (pc, (.newarray .long), [21], c1)) (hok : okI y M wp i = true) (h : stepG cl k (pc, (.newarray .long), [21], c1) i ls st σ = some (o, τ)) : Go G y p l e R s m args below meth c Q n0 c0 w0 ad0 M i ls st σ := by
  intro ad H locs cells slots S I
  obtain ⟨hx, hb, hml, hown, hts, hE, hnm, hrt, hlk, htab, hst, hRf, hRl⟩ := B
  unfold okI at hok
  rw [hM] at hok ⊢
  dsimp only at hok ⊢
  rw [Bool.and_eq_true] at hok
  obtain ⟨hd, hn⟩ := dcI_ok hok.1 hM
  obtain ⟨x, r, e1, h1⟩ := s1i_inv h
  clear h
  subst e1
  obtain ⟨hc, h⟩ := cond_inv h1
  clear h1
  rw [Bool.and_eq_true] at hc
  have hx0 : (0 : Int32) ≤ x := of_decide_eq_true hc.1
  have hx1 : x.toNatClampNeg ≤ 100000 := of_decide_eq_true hc.2
  have R0 := I.2.2.2.1
  have K := KS _ _ _ _ h
  have hcC : hC (hMk σ 21 x.toNatClampNeg x.toNatClampNeg) ≤ hC τ := K.1.2.1
  have hcW : hW (hMk σ 21 x.toNatClampNeg x.toNatClampNeg) ≤ hW τ := K.1.2.2
  have e1 : hC (hMk σ 21 x.toNatClampNeg x.toNatClampNeg) = hC σ + 1 := rfl
  have e2 : hW (hMk σ 21 x.toNatClampNeg x.toNatClampNeg) = hW σ + x.toNatClampNeg := rfl
  have i8 := I.2.2.2.2.2.2.2.1
  have i9 := I.2.2.2.2.2.2.2.2
  refine va_newa (atype := .long) hx hb (hts _ ac_long) rfl hE.1 R0.2.1 R0.2.2.1 I.2.2.2.2.1 hE.2.2.2.2.2.2.2.2.2.2.2 (N' := x.toNatClampNeg) (a0 := (x.toNatClampNeg, .inr (.inl (fun _ => 0)))) (fun cA => rfl) (Int32.not_lt.mpr hx0) rfl (Nat.le_trans (Nat.mul_le_mul hx1 (show componentBytes _ ≤ 8 by decide)) (by decide)) (by omega) (by omega) hd (fun q cA H1 hK1 hP1 hD1 hS1 => ?_)
  have hcA : cA = G.2.1.2.1 := arr_uniq hK1 (k := 4) (j := 1) rfl rfl
  subst hcA
  have hR1 : RelH txT G (hMk σ 21 x.toNatClampNeg x.toNatClampNeg) (u1 ad (hN σ) q) H1 := R0.push (kd := 21) rfl rfl (by unfold kOK; omega) (fun o ho => u1_ne ho) (fun o ho => u1_ne ho) (fun o ho => u1_ne ho) rfl (by
    rw [ent_21 (σ := hMk σ 21 x.toNatClampNeg x.toNatClampNeg) u1_eq]
    show Sum.inl (_, u1 (hL σ) (hN σ) x.toNatClampNeg (hN σ), Sum.inr (Sum.inl (u1 (hJ σ) (hN σ) (fun _ => 0) (hN σ)))) = _
    rw [u1_eq, u1_eq]) hP1 hD1
  rw [← hn]
  have hgo := K.2 _ _ _ _ _ _ (I.tl.alloc hR1 rfl rfl rfl hS1)
  rw [alloc_st I.tl] at hgo
  exact hgo
set_option maxHeartbeats 1000000 in
theorem sd_newarr_bool {k : KK} {i : Nat} {ls st : List Value} {σ : HS} {cl : CL} {pc : Nat} {c1 : Int32} (B : Bse G y d p l R s m args meth c) (hRc : hC τ ≤ c0 + R.cells) (hRs : hW τ ≤ w0 + R.slots) (KS : KSt G y p l e R s m args below meth c Q n0 c0 w0 ad0 M o τ k) (hM : M i = (pc, (.newarray .boolean), [22], c1)) (hok : okI y M wp i = true) (h : stepG cl k (pc, (.newarray .boolean), [22], c1) i ls st σ = some (o, τ)) : Go G y p l e R s m args below meth c Q n0 c0 w0 ad0 M i ls st σ := by
  intro ad H locs cells slots S I
  obtain ⟨hx, hb, hml, hown, hts, hE, hnm, hrt, hlk, htab, hst, hRf, hRl⟩ := B
  unfold okI at hok
  rw [hM] at hok ⊢
  dsimp only at hok ⊢
  rw [Bool.and_eq_true] at hok
  obtain ⟨hd, hn⟩ := dcI_ok hok.1 hM
  obtain ⟨x, r, e1, h1⟩ := s1i_inv h
  clear h
  subst e1
  obtain ⟨hc, h⟩ := cond_inv h1
  clear h1
  rw [Bool.and_eq_true] at hc
  have hx0 : (0 : Int32) ≤ x := of_decide_eq_true hc.1
  have hx1 : x.toNatClampNeg ≤ 100000 := of_decide_eq_true hc.2
  have R0 := I.2.2.2.1
  have K := KS _ _ _ _ h
  have hcC : hC (hMk σ 22 x.toNatClampNeg x.toNatClampNeg) ≤ hC τ := K.1.2.1
  have hcW : hW (hMk σ 22 x.toNatClampNeg x.toNatClampNeg) ≤ hW τ := K.1.2.2
  have e1 : hC (hMk σ 22 x.toNatClampNeg x.toNatClampNeg) = hC σ + 1 := rfl
  have e2 : hW (hMk σ 22 x.toNatClampNeg x.toNatClampNeg) = hW σ + x.toNatClampNeg := rfl
  have i8 := I.2.2.2.2.2.2.2.1
  have i9 := I.2.2.2.2.2.2.2.2
  refine va_newa (atype := .boolean) hx hb (hts _ ac_bool) rfl hE.1 R0.2.1 R0.2.2.1 I.2.2.2.2.1 hE.2.2.2.2.2.2.2.2.2.2.2 (N' := x.toNatClampNeg) (a0 := (x.toNatClampNeg, .inl (fun _ => 0))) (fun cA => rfl) (Int32.not_lt.mpr hx0) rfl (Nat.le_trans (Nat.mul_le_mul hx1 (show componentBytes _ ≤ 8 by decide)) (by decide)) (by omega) (by omega) hd (fun q cA H1 hK1 hP1 hD1 hS1 => ?_)
  have hcA : cA = G.2.1.2.2.1 := arr_uniq hK1 (k := 4) (j := 2) rfl rfl
  subst hcA
  have hR1 : RelH txT G (hMk σ 22 x.toNatClampNeg x.toNatClampNeg) (u1 ad (hN σ) q) H1 := R0.push (kd := 22) rfl rfl (by unfold kOK; omega) (fun o ho => u1_ne ho) (fun o ho => u1_ne ho) (fun o ho => u1_ne ho) rfl (by
    rw [ent_22 (σ := hMk σ 22 x.toNatClampNeg x.toNatClampNeg) u1_eq]
    show Sum.inl (_, u1 (hL σ) (hN σ) x.toNatClampNeg (hN σ), Sum.inl (u1 (hI σ) (hN σ) (fun _ => 0) (hN σ))) = _
    rw [u1_eq, u1_eq]) hP1 hD1
  rw [← hn]
  have hgo := K.2 _ _ _ _ _ _ (I.tl.alloc hR1 rfl rfl rfl hS1)
  rw [alloc_st I.tl] at hgo
  exact hgo
set_option maxHeartbeats 1000000 in
theorem sd_anewarray {k : KK} {i : Nat} {ls st : List Value} {σ : HS} {cl : CL} {pc : Nat} {n : Nat} {ps : List Nat} {c1 : Int32} (B : Bse G y d p l R s m args meth c) (hRc : hC τ ≤ c0 + R.cells) (hRs : hW τ ≤ w0 + R.slots) (KS : KSt G y p l e R s m args below meth c Q n0 c0 w0 ad0 M o τ k) (hM : M i = (pc, (.anewarray n), ps, c1)) (hok : okI y M wp i = true) (h : stepG cl k (pc, (.anewarray n), ps, c1) i ls st σ = some (o, τ)) : Go G y p l e R s m args below meth c Q n0 c0 w0 ad0 M i ls st σ := by
  intro ad H locs cells slots S I
  obtain ⟨hx, hb, hml, hown, hts, hE, hnm, hrt, hlk, htab, hst, hRf, hRl⟩ := B
  unfold okI at hok
  rw [hM] at hok ⊢
  dsimp only at hok ⊢
  rw [Bool.and_eq_true] at hok
  obtain ⟨hd, hn⟩ := dcI_ok hok.1 hM
  obtain ⟨x, r, e1, h1⟩ := s1i_inv h
  clear h
  subst e1
  obtain ⟨hc, h⟩ := cond_inv h1
  clear h1
  rw [Bool.and_eq_true] at hc
  have hx0 : (0 : Int32) ≤ x := of_decide_eq_true hc.1
  have hx1 : x.toNatClampNeg ≤ 100000 := of_decide_eq_true hc.2
  have R0 := I.2.2.2.1
  have K := KS _ _ _ _ h
  have hcC : hC (hMk σ 23 x.toNatClampNeg x.toNatClampNeg) ≤ hC τ := K.1.2.1
  have hcW : hW (hMk σ 23 x.toNatClampNeg x.toNatClampNeg) ≤ hW τ := K.1.2.2
  have e1 : hC (hMk σ 23 x.toNatClampNeg x.toNatClampNeg) = hC σ + 1 := rfl
  have e2 : hW (hMk σ 23 x.toNatClampNeg x.toNatClampNeg) = hW σ + x.toNatClampNeg := rfl
  have i8 := I.2.2.2.2.2.2.2.1
  have i9 := I.2.2.2.2.2.2.2.2
  refine va_newq hx hb hown (hts _ (wdI_ok hok.2)) hE.2.2.1 hE.1 R0.2.1 R0.2.2.1 I.2.2.2.2.1 hE.2.2.2.2.2.2.2.2.2.2.2 (N' := x.toNatClampNeg) (Int32.not_lt.mpr hx0) rfl (by omega) (by omega) (by omega) hd (fun q cA H1 hK1 hP1 hD1 hS1 => ?_)
  have hcA : cA = G.2.1.2.2.2 := arr_uniq hK1 (k := 4) (j := 3) rfl rfl
  subst hcA
  have hR1 : RelH txT G (hMk σ 23 x.toNatClampNeg x.toNatClampNeg) (u1 ad (hN σ) q) H1 := R0.push (kd := 23) rfl rfl (by unfold kOK; omega) (fun o ho => u1_ne ho) (fun o ho => u1_ne ho) (fun o ho => u1_ne ho) rfl (by
    rw [ent_23 (σ := hMk σ 23 x.toNatClampNeg x.toNatClampNeg) u1_eq]
    show Sum.inl (_, u1 (hL σ) (hN σ) x.toNatClampNeg (hN σ), Sum.inr (Sum.inr (Sum.inr (Sum.inr (fun j => rfo _ (u1 (hR σ) (hN σ) (fun _ => 0) (hN σ) j)))))) = _
    rw [u1_eq, u1_eq]
    rfl) hP1 hD1
  rw [← hn]
  have hgo := K.2 _ _ _ _ _ _ (I.tl.alloc hR1 rfl rfl rfl hS1)
  rw [alloc_st I.tl] at hgo
  exact hgo
set_option maxHeartbeats 1000000 in
theorem sd_checkcast {k : KK} {i : Nat} {ls st : List Value} {σ : HS} {cl : CL} {pc : Nat} {n : Nat} {ps : List Nat} {c1 : Int32} (B : Bse G y d p l R s m args meth c) (KS : KSt G y p l e R s m args below meth c Q n0 c0 w0 ad0 M o τ k) (hM : M i = (pc, (.checkcast n), ps, c1)) (hok : okI y M wp i = true) (h : stepG cl k (pc, (.checkcast n), ps, c1) i ls st σ = some (o, τ)) : Go G y p l e R s m args below meth c Q n0 c0 w0 ad0 M i ls st σ := by
  intro ad H locs cells slots S I
  obtain ⟨hx, hb, hml, hown, hts, hE, hnm, hrt, hlk, htab, hst, hRf, hRl⟩ := B
  unfold okI at hok
  rw [hM] at hok ⊢
  dsimp only at hok ⊢
  rw [Bool.and_eq_true] at hok
  obtain ⟨hd, hn⟩ := dcI_ok hok.1 hM
  obtain ⟨a, r, e1, h1⟩ := s1r_inv h
  clear h
  subst e1
  obtain ⟨hc, h⟩ := cond_inv h1
  clear h1
  have hk := of_decide_eq_true hc
  have R0 := I.2.2.2.1
  obtain ⟨a1, a2, hw⟩ := R0.cell hk (by unfold kOK; omega)
  rw [ent_20 hk] at hw
  have hgo := (KS _ _ _ _ h).2 _ _ _ _ _ _ I
  rw [hn] at hgo
  revert hgo
  show W p l e R s m args below meth c H locs cells slots Q (F0 m (pc + 3) S (rz ad (.ref a) :: r.map (rz ad))) → W p l e R s m args below meth c H locs cells slots Q (F0 m pc S (rz ad (.ref a) :: r.map (rz ad)))
  rw [rz_ref1 (refne R0 hk (by omega))]
  intro hgo
  exact va_castA hx hb hown (hts _ (wdI_ok hok.2)) R0.2.1 (a - 79) hw (va_nm_int (hE.1.2 0 _ rfl).2) hd hgo
set_option maxHeartbeats 1000000 in
theorem sd_if_acmp {k : KK} {i : Nat} {ls st : List Value} {σ : HS} {cl : CL} {pc : Nat} {a : ACond} {b : Int} {ps : List Nat} {c1 : Int32} (B : Bse G y d p l R s m args meth c) (KS : KSt G y p l e R s m args below meth c Q n0 c0 w0 ad0 M o τ k) (hM : M i = (pc, (.if_acmp a b), ps, c1)) (hok : okI y M wp i = true) (h : stepG cl k (pc, (.if_acmp a b), ps, c1) i ls st σ = some (o, τ)) : Go G y p l e R s m args below meth c Q n0 c0 w0 ad0 M i ls st σ := by
  intro ad H locs cells slots S I
  obtain ⟨hx, hb, hml, hown, hts, hE, hnm, hrt, hlk, htab, hst, hRf, hRl⟩ := B
  unfold okI at hok
  rw [hM] at hok ⊢
  dsimp only at hok ⊢
  rw [Bool.and_eq_true] at hok
  obtain ⟨hd, hn⟩ := dcI_ok hok.1 hM
  obtain ⟨t, rfl, ht⟩ := tgT_ok hok.2 hM
  obtain ⟨x, z, r, e1, h0⟩ := s2r_inv h
  clear h
  subst e1
  obtain ⟨hkk, h1⟩ := cond_inv h0
  clear h0
  rw [Bool.and_eq_true] at hkk
  have k1 := of_decide_eq_true hkk.1
  have k2 := of_decide_eq_true hkk.2
  have R0 := I.2.2.2.1
  obtain ⟨x1, x2⟩ := R0.range k1 (by unfold kOK; omega)
  obtain ⟨z1, z2⟩ := R0.range k2 (by unfold kOK; omega)
  have hiff : rfo ad x = rfo ad z ↔ x = z := by
    unfold rfo
    rw [if_neg (by omega), if_neg (by omega)]
    exact ⟨fun q => R0.inj x1 z1 x2 z2 (Option.some.inj q), fun q => by rw [q]⟩
  show W p l e R s m args below meth c H locs cells slots Q (F0 m pc S (va_rf (rfo ad z) :: va_rf (rfo ad x) :: r.map (rz ad)))
  cases a
  · refine lv_acmp_eq hx hb hd ht (fun hc => ?_) (fun hc => ?_)
    · rw [hiff] at hc
      have h : cond (decide (x = z)) (k t ls r σ) (k (i + 1) ls r σ) = some (o, τ) := h1
      rw [decide_eq_true hc] at h
      exact (KS _ _ _ _ h).2 _ _ _ _ _ _ I.tl.tl
    · rw [hiff] at hc
      have h : cond (decide (x = z)) (k t ls r σ) (k (i + 1) ls r σ) = some (o, τ) := h1
      rw [decide_eq_false hc] at h
      rw [← hn]
      exact (KS _ _ _ _ h).2 _ _ _ _ _ _ I.tl.tl
  · refine lv_acmp_ne hx hb hd ht (fun hc => ?_) (fun hc => ?_)
    · rw [hiff] at hc
      have h : cond (decide (x = z)) (k (i + 1) ls r σ) (k t ls r σ) = some (o, τ) := h1
      rw [decide_eq_false hc] at h
      exact (KS _ _ _ _ h).2 _ _ _ _ _ _ I.tl.tl
    · rw [hiff] at hc
      have h : cond (decide (x = z)) (k (i + 1) ls r σ) (k t ls r σ) = some (o, τ) := h1
      rw [decide_eq_true hc] at h
      rw [← hn]
      exact (KS _ _ _ _ h).2 _ _ _ _ _ _ I.tl.tl
set_option maxHeartbeats 1000000 in
theorem sd_tableswitch {k : KK} {i : Nat} {ls st : List Value} {σ : HS} {cl : CL} {pc : Nat} {dd lo hi : Int} {os : Array Int} {ps : List Nat} {c1 : Int32} (B : Bse G y d p l R s m args meth c) (KS : KSt G y p l e R s m args below meth c Q n0 c0 w0 ad0 M o τ k) (hM : M i = (pc, (.tableswitch dd lo hi os), ps, c1)) (hok : okI y M wp i = true) (h : stepG cl k (pc, (.tableswitch dd lo hi os), ps, c1) i ls st σ = some (o, τ)) : Go G y p l e R s m args below meth c Q n0 c0 w0 ad0 M i ls st σ := by
  intro ad H locs cells slots S I
  obtain ⟨hx, hb, hml, hown, hts, hE, hnm, hrt, hlk, htab, hst, hRf, hRl⟩ := B
  unfold okI at hok
  rw [hM] at hok ⊢
  dsimp only at hok ⊢
  rw [Bool.and_eq_true] at hok
  have hd := dcE_ok hok.1 hM
  obtain ⟨t, ts, e9, h1⟩ := pcnd_inv h
  clear h
  subst e9
  obtain ⟨x, r, e1, h⟩ := s1i_inv h1
  clear h1
  subst e1
  have h2 := hok.2
  dsimp only at h2
  rw [Bool.and_eq_true, Bool.and_eq_true, Bool.and_eq_true, Bool.and_eq_true, Bool.and_eq_true] at h2
  obtain ⟨⟨⟨⟨⟨g1, g2⟩, g3⟩, g4⟩, g5⟩, g6⟩ := h2
  have g3 := of_decide_eq_true g3
  have g4 := of_decide_eq_true g4
  have g5 := of_decide_eq_true g5
  have g6 := of_decide_eq_true g6
  obtain ⟨l1, l2⟩ := tgL_at hM ts os.toList g2
  rcases tsw_inv ts c1 (by omega) (by omega) h with ⟨j, t2, q1, q2, q3⟩ | ⟨q1, q2⟩
  · obtain ⟨off, o1, o2⟩ := l2 j t2 q1
    have hj : j < ts.length := (List.getElem?_eq_some_iff.mp q1).1
    refine lv_tableIn hx hb hd (by omega) (by omega) (off := off) ?_ o2 ?_
    · rw [show (x.toInt - lo).toNat = j by omega, ← Array.getElem?_toList]
      exact o1
    · exact (KS _ _ _ _ q3).2 _ _ _ _ _ _ I.tl
  · refine lv_tableOut hx hb hd (by omega) (tgI_ok g1 hM) ?_
    exact (KS _ _ _ _ q2).2 _ _ _ _ _ _ I.tl
end SND
