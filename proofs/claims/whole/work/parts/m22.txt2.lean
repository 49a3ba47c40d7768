/-! TEXTS, the second part: the two calls as steps -/
section TXB
variable {G : GP} {l : Launch}
theorem RelH.keep {σ : HS} {ad : Nat → Nat} {H H1 : Heap} (h : RelH txT G σ ad H) (hk : ∀ q : Nat, q < H.size → H1[q]? = H[q]?) : RelH txT G σ ad H1 :=
  ⟨h.1, h.2.1.kept (fun k x hx => hk x.1 ((h.2.1 k x hx).lt)), h.2.2⟩
theorem str_id {L : Nat} {xs : Nat → Int32} {tx : Nat → List Int32} {σ : HS} (h : wfSx tx L xs σ) {a : Nat} (hk : hK σ a = 30) : 1 ≤ a ∧ a ≤ 77 := by
  obtain ⟨w1, w2, w3, w4, w5, w6, -⟩ := h
  rcases Nat.lt_or_ge a 78 with q | q
  · by_cases a0 : a = 0
    · subst a0; rw [w2] at hk; omega
    · omega
  · by_cases a8 : a = 78
    · subst a8; rw [w4] at hk; omega
    · rcases Nat.lt_or_ge a (hN σ) with q2 | q2
      · have := w5 a (by omega) q2
        rw [hk] at this
        unfold kOK at this
        omega
      · rw [w6 a q2] at hk; omega
theorem t_w5 : Cond.instanceMethod yJ0_length_8abf5 ∈ LTg ∧ Cond.selects "java/lang/String" yJ0_length_8abf5 yJ0_length_8abf5 ∈ LTg ∧ Cond.code yJ0_length_8abf5 cJ0_length_8abf5 1 (some .int) ∈ LTg := ⟨wdI_ok (p := 704) (by decide +kernel), wdI_ok (p := 705) (by decide +kernel), wdI_ok (p := 706) (by decide +kernel)⟩
theorem t_w6 : Cond.instanceMethod yJ0_charAt_5068e ∈ LTg ∧ Cond.selects "java/lang/String" yJ0_charAt_5068e yJ0_charAt_5068e ∈ LTg ∧ Cond.code yJ0_charAt_5068e cJ0_charAt_5068e 2 (some .char) ∈ LTg := ⟨wdI_ok (p := 714) (by decide +kernel), wdI_ok (p := 715) (by decide +kernel), wdI_ok (p := 716) (by decide +kernel)⟩
set_option maxHeartbeats 1000000 in
theorem txt_ok : TXT G l := by
  intro y d p e R s m args below meth c Q n0 c0 w0 ad0 o τ M wp cl k i ls st σ pc n rk c1 B hRc hRs KS hok hrk hM h
  intro ad H locs cells slots S I
  obtain ⟨hx, hb, hml, hown, hts, hE, hnm, hrt, hlk, htab, hst, hRf, hRl⟩ := B
  unfold okI at hok
  rw [hM] at hok h ⊢
  dsimp only at hok ⊢
  have R0 := I.2.2.2.1
  have fr : 10 ≤ R.frames := by omega
  have lo : 300 ≤ R.locals := by omega
  rcases hrk with rfl | rfl
  · try dsimp only at hok
    rw [Bool.and_eq_true] at hok
    obtain ⟨hd, hn⟩ := dcI_ok hok.1 hM
    have hlink := wdI_ok hok.2
    have h : s1r st (fun a r => cond (decide (hK σ a = 30) && decide (catS r ≤ 8)) (k (i + 1) ls (.int (Int32.ofNat (hL σ a)) :: r) σ) none) = some (o, τ) := h
    obtain ⟨a, r, e1, h1⟩ := s1r_inv h
    clear h
    subst e1
    obtain ⟨hc, h⟩ := cond_inv h1
    clear h1
    rw [Bool.and_eq_true] at hc
    obtain ⟨a1, a2⟩ := str_id R0.1 (of_decide_eq_true hc.1)
    have hc8 := of_decide_eq_true hc.2
    have K := KS _ _ _ _ h
    obtain ⟨r1, r2⟩ := I.room K.1 hRc hRs
    have hct := I.tl.cat
    obtain ⟨v, s1, s2, s3, s4⟩ := hE.2.2.2.2.2.2.2.1.1 a a1 a2
    obtain ⟨cell, q1, q2, q3, -⟩ := s1.kept I.2.2.2.2.1.2.1
    show W p l e R s m args below meth c H locs cells slots Q (F0 m pc S (rz ad (.ref a) :: r.map (rz ad)))
    rw [rz_ref1 (by omega), R0.2.2.2 a (by omega)]
    refine va_calli (A0 := gAx G) (va_runV (As := []) (rest := r.map (rz ad)) ⟨hx, hb, hml, hown, hts⟩ (m_length a a1 a2) (cwV 0 hts (t_wsV hlink t_w5.1 t_w5.2.1 t_w1.2.2.1 t_w5.2.2) rfl rfl rfl (by decide +kernel) ⟨by show 2 + 1 ≤ R.frames; omega, by show 8 + (1 + 11) + 2 * 30 ≤ R.locals; omega⟩) ⟨tP_blind, ⟨cell, q1, q2, q3⟩, tP_at hE I.2.2.2.2.1⟩ rfl rfl I.len rfl (lv_room (by rw [hct]; exact hc8)) hd ⟨r1, r2⟩) I.2.2.2.2.1 (fun q _ h => h.elim) (fun q h => h) (fun x u t H1 locs1 ht hvm hw hB hz hk hS1 => ?_)
    subst hw
    have e2 : hL σ a = (txT a).length := (R0.1.2.2.2.2.2.2.2.1 a a1 a2).1
    rw [e2] at h
    rw [← hn]
    exact (KS _ _ _ _ h).2 _ _ _ _ _ _ ⟨I.1, I.2.1, (I.tl.cons (v := .int (Int32.ofNat (txT a).length)) trivial rfl).2.2.1, R0.keep (fun q hq => hk q hq (fun h => h)), hS1, I.2.2.2.2.2⟩
  · try dsimp only at hok
    rw [Bool.and_eq_true] at hok
    obtain ⟨hd, hn⟩ := dcI_ok hok.1 hM
    have hlink := wdI_ok hok.2
    have h : s1i st (fun j r => s1r r fun a r => cond (decide (hK σ a = 30) && inb j (hL σ a) && decide (catS r ≤ 8)) (k (i + 1) ls (.int (hI σ a j.toNatClampNeg) :: r) σ) none) = some (o, τ) := h
    obtain ⟨j, r0, e1, h0⟩ := s1i_inv h
    obtain ⟨a, r, e2, h1⟩ := s1r_inv h0
    clear h h0
    subst e2; subst e1
    obtain ⟨hc, h⟩ := cond_inv h1
    clear h1
    rw [Bool.and_eq_true, Bool.and_eq_true] at hc
    obtain ⟨a1, a2⟩ := str_id R0.1 (of_decide_eq_true hc.1.1)
    have hv := inb_vp hc.1.2
    have hc8 := of_decide_eq_true hc.2
    have K := KS _ _ _ _ h
    obtain ⟨r1, r2⟩ := I.room K.1 hRc hRs
    have hct := I.tl.tl.cat
    obtain ⟨e3, e4⟩ := R0.1.2.2.2.2.2.2.2.1 a a1 a2
    rw [e3] at hv
    obtain ⟨b, hb1, hb2⟩ := vp_in_of hv (txT_all a a2).1
    subst hb2
    have hbl := nI_clamp (n := b) (Nat.lt_trans hb1 (txT_all a a2).1)
    obtain ⟨v, s1, s2, s3, s4⟩ := hE.2.2.2.2.2.2.2.1.1 a a1 a2
    obtain ⟨cell, q1, q2, q3, -⟩ := s1.kept I.2.2.2.2.1.2.1
    show W p l e R s m args below meth c H locs cells slots Q (F0 m pc S (.int (nI b) :: rz ad (.ref a) :: r.map (rz ad)))
    rw [rz_ref1 (by omega), R0.2.2.2 a (by omega)]
    refine va_calli (A0 := gAx G) (va_runV (As := [.int (nI b)]) (rest := r.map (rz ad)) ⟨hx, hb, hml, hown, hts⟩ (m_charAt a a1 a2 b hb1) (cwV 1 hts (t_wsV hlink t_w6.1 t_w6.2.1 t_w1.2.2.1 t_w6.2.2) rfl rfl rfl (by decide +kernel) ⟨by show 4 + 1 ≤ R.frames; omega, by show 8 + (2 + 11) + 4 * 30 ≤ R.locals; omega⟩) ⟨tP_blind, ⟨cell, q1, q2, q3⟩, tP_at hE I.2.2.2.2.1⟩ rfl rfl I.len rfl (lv_room (by rw [hct]; exact hc8)) hd ⟨r1, r2⟩) I.2.2.2.2.1 (fun q _ h => h.elim) (fun q h => h) (fun x u t H1 locs1 ht hvm hw hB hz hk hS1 => ?_)
    subst hw
    rw [hbl, e4 b hb1] at h
    rw [← hn]
    exact (KS _ _ _ _ h).2 _ _ _ _ _ _ ⟨I.1, I.2.1, (I.tl.tl.cons (v := .int ((txT a).getD b 0)) trivial rfl).2.2.1, R0.keep (fun q hq => hk q hq (fun h => h)), hS1, I.2.2.2.2.2⟩
end TXB
