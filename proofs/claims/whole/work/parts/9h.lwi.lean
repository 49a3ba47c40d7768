/-! a law's steps are well formed -/
def dps : List Int → Nat → Nat
  | [], a => a
  | s :: ss, a => dps ss (ln1 s a)
theorem wfS_app : ∀ (ss tt : List Int) (a : Nat), wfS ss a → wfS tt (dps ss a) → wfS (ss ++ tt) a
  | [], tt, a, _, h => h
  | s :: ss, tt, a, h, h2 => ⟨h.1, h.2.1, wfS_app ss tt _ h.2.2 h2⟩
theorem dps_app : ∀ (ss tt : List Int) (a : Nat), dps (ss ++ tt) a = dps tt (dps ss a)
  | [], tt, a => rfl
  | s :: ss, tt, a => dps_app ss tt (ln1 s a)
theorem cnt_app : ∀ (ss tt : List Int), cntL (ss ++ tt) = cntL ss + cntL tt
  | [], tt => by show cntL tt = 0 + cntL tt; omega
  | s :: ss, tt => by
    show (if s / 1024 = 8 then 1 else 0) + cntL (ss ++ tt) = (if s / 1024 = 8 then 1 else 0) + cntL ss + cntL tt
    rw [cnt_app ss tt]
    omega
def Ex (h : Nat) (ss : List Int) : Prop := cntL ss = 0 ∧ ∀ a, a + h ≤ 40 → wfS ss a ∧ dps ss a = a + 1
theorem Ex_m {h h' : Nat} {ss : List Int} (g : Ex h ss) (hh : h ≤ h') : Ex h' ss := ⟨g.1, fun a ha => g.2 a (by omega)⟩
theorem Ex_1 {s : Int} (h : (0 ≤ s ∧ s < 1024) ∨ (1024 ≤ s ∧ s ≤ 1031)) : Ex 1 [s] := by
  refine ⟨?_, fun a ha => ?_⟩
  · show (if s / 1024 = 8 then 1 else 0) + 0 = 0
    rw [if_neg (by omega)]
  · have e : ln1 s a = a + 1 := by
      unfold ln1
      rw [if_pos (by omega)]
    refine ⟨⟨by omega, ⟨by omega, by omega, by omega, by omega⟩, ?_⟩, e⟩
    show ln1 s a ≤ 40
    omega
theorem Ex_2 {h : Nat} {ss tt : List Int} {s : Int} (g : Ex h ss) (g2 : Ex h tt) (hs : s = 2048 ∨ s = 3072 ∨ s = 4096 ∨ s = 6144 ∨ s = 7168) (h1 : 1 ≤ h) : Ex (h + 1) (ss ++ (tt ++ [s])) := by
  refine ⟨?_, fun a ha => ?_⟩
  · rw [cnt_app, cnt_app, g.1, g2.1]
    show 0 + (0 + ((if s / 1024 = 8 then 1 else 0) + 0)) = 0
    rw [if_neg (by omega)]
  · obtain ⟨a1, a2⟩ := g.2 a (by omega)
    obtain ⟨b1, b2⟩ := g2.2 (a + 1) (by omega)
    have e : ln1 s (a + 1 + 1) = a + 1 := by
      unfold ln1
      rw [if_neg (by omega), if_neg (by omega), if_neg (by omega)]
      omega
    refine ⟨wfS_app _ _ _ a1 ?_, ?_⟩
    · rw [a2]
      refine wfS_app _ _ _ b1 ?_
      rw [b2]
      refine ⟨by omega, ⟨by omega, by omega, by omega, by omega⟩, ?_⟩
      show ln1 s (a + 1 + 1) ≤ 40
      omega
    · rw [dps_app, dps_app, a2, b2]
      exact e
theorem Ex_n {h : Nat} {ss : List Int} (g : Ex h ss) (h1 : 1 ≤ h) : Ex h (ss ++ [5120]) := by
  refine ⟨?_, fun a ha => ?_⟩
  · rw [cnt_app, g.1]
    rfl
  · obtain ⟨a1, a2⟩ := g.2 a ha
    have e : ln1 5120 (a + 1) = a + 1 := by
      unfold ln1
      rw [if_neg (by omega), if_pos (by omega)]
      omega
    refine ⟨wfS_app _ _ _ a1 ?_, ?_⟩
    · rw [a2]
      refine ⟨by omega, ⟨by omega, by omega, by omega, by omega⟩, ?_⟩
      show ln1 5120 (a + 1) ≤ 40
      omega
    · rw [dps_app, a2]
      exact e
def ExA (h : Nat) (A : Int → PRes) : Prop := ∀ p r, A p = .ok r → Ex h r.2
theorem pPart_x {T : Int → Int} {e : Int} : ExA 1 (pPart T e) := by
  intro p r h
  unfold pPart at h
  dsimp only at h
  split at h
  · cases h4 : pFig T e 0 999 (sk T e p) with
    | error f => rw [h4] at h; exact nomatch h
    | ok u =>
      rw [h4] at h; injection h with h; subst h
      have := dg_lt h4
      exact Ex_1 (by omega)
  · split at h
    · exact nomatch h
    · rename_i c1 c2
      injection h with h; subst h
      have := kwI_r FW 0 (by omega) FW_ne c2
      have hlen : (FW.length : Int) = 7 := rfl
      exact Ex_1 (by omega)
theorem sumN_x {T : Int → Int} {e : Int} : ∀ (m : Nat) (p : Int) (ss : List Int) (r : Int × List Int), Ex 2 ss → sumN T e m p ss = .ok r → Ex 2 r.2
  | 0, p, ss, r, g, h => by
    unfold sumN at h
    injection h with h
    subst h
    exact g
  | m + 1, p, ss, r, g, h => by
    unfold sumN at h
    split at h
    · cases h2 : pPart T e (sk T e p + 1) with
      | error f => rw [h2] at h; exact nomatch h
      | ok t =>
        rw [h2] at h
        refine sumN_x m _ _ _ ?_ h
        have g2 := pPart_x _ _ h2
        refine ⟨?_, fun a ha => ?_⟩
        · rw [cnt_app, cnt_app, g.1, g2.1]
          rfl
        · obtain ⟨a1, a2⟩ := g.2 a ha
          obtain ⟨b1, b2⟩ := g2.2 (a + 1) (by omega)
          have e : ln1 2048 (a + 1 + 1) = a + 1 := by
            unfold ln1
            rw [if_neg (by omega), if_neg (by omega), if_neg (by omega)]
            omega
          refine ⟨wfS_app _ _ _ a1 ?_, ?_⟩
          · rw [a2]
            refine wfS_app _ _ _ b1 ?_
            rw [b2]
            refine ⟨by omega, ⟨by omega, by omega, by omega, by omega⟩, ?_⟩
            show ln1 2048 (a + 1 + 1) ≤ 40
            omega
          · rw [dps_app, dps_app, a2, b2]
            exact e
    · injection h with h
      subst h
      exact g
theorem pSum_x {T : Int → Int} {e : Int} : ExA 2 (pSum T e) := by
  intro p r h
  unfold pSum at h
  cases h2 : pPart T e p with
  | error f => rw [h2] at h; exact nomatch h
  | ok t =>
    rw [h2] at h
    exact sumN_x _ _ _ _ (Ex_m (pPart_x _ _ h2) (by omega)) h
theorem pPlain_x {T : Int → Int} {e : Int} : ExA 3 (pPlain T e) := by
  intro p r h
  unfold pPlain at h
  dsimp only at h
  split at h
  · injection h with h; subst h; exact Ex_m (Ex_1 (by omega)) (by omega)
  · cases h2 : pSum T e (sk T e p) with
    | error f => rw [h2] at h; exact nomatch h
    | ok t =>
      rw [h2] at h
      dsimp only at h
      have g1 := pSum_x _ _ h2
      split at h
      · cases h3 : pSum T e (sk T e t.1 + 1) with
        | error f => rw [h3] at h; exact nomatch h
        | ok u =>
          rw [h3] at h; injection h with h; subst h
          exact Ex_2 g1 (pSum_x _ _ h3) (by omega) (by omega)
      · split at h
        · cases h3 : pSum T e (sk T e t.1 + 1) with
          | error f => rw [h3] at h; exact nomatch h
          | ok u =>
            rw [h3] at h; injection h with h; subst h
            exact Ex_2 g1 (pSum_x _ _ h3) (by omega) (by omega)
        · exact nomatch h
/-- joined on: the left side at its peak already -/
theorem Ex_j {h : Nat} {ss tt : List Int} {s : Int} (g : Ex (h + 1) ss) (g2 : Ex h tt) (hs : s = 6144 ∨ s = 7168) (h1 : 1 ≤ h) : Ex (h + 1) (ss ++ (tt ++ [s])) := by
  refine ⟨?_, fun a ha => ?_⟩
  · rw [cnt_app, cnt_app, g.1, g2.1]
    show 0 + (0 + ((if s / 1024 = 8 then 1 else 0) + 0)) = 0
    rw [if_neg (by omega)]
  · obtain ⟨a1, a2⟩ := g.2 a (by omega)
    obtain ⟨b1, b2⟩ := g2.2 (a + 1) (by omega)
    have e : ln1 s (a + 1 + 1) = a + 1 := by
      unfold ln1
      rw [if_neg (by omega), if_neg (by omega), if_neg (by omega)]
      omega
    refine ⟨wfS_app _ _ _ a1 ?_, ?_⟩
    · rw [a2]
      refine wfS_app _ _ _ b1 ?_
      rw [b2]
      refine ⟨by omega, ⟨by omega, by omega, by omega, by omega⟩, ?_⟩
      show ln1 s (a + 1 + 1) ≤ 40
      omega
    · rw [dps_app, dps_app, a2, b2]
      exact e
theorem everyN_x {A : Int → PRes} {T : Int → Int} {e : Int} {h : Nat} (hA : ExA h A) (h1 : 1 ≤ h) : ∀ (m : Nat) (p : Int) (ss : List Int) (r : Int × List Int), Ex (h + 1) ss → everyN A T e m p ss = .ok r → Ex (h + 1) r.2
  | 0, p, ss, r, g, hh => by
    unfold everyN at hh
    injection hh with hh
    subst hh
    exact g
  | m + 1, p, ss, r, g, hh => by
    unfold everyN at hh
    split at hh
    · cases h2 : A (lw T e (sk T e p)) with
      | error f => rw [h2] at hh; exact nomatch hh
      | ok t =>
        rw [h2] at hh
        exact everyN_x hA h1 m _ _ _ (Ex_j g (hA _ _ h2) (by omega) h1) hh
    · injection hh with hh
      subst hh
      exact g
theorem pEvery_x {A : Int → PRes} {T : Int → Int} {e : Int} {h : Nat} (hA : ExA h A) (h1 : 1 ≤ h) : ExA (h + 1) (pEvery A T e) := by
  intro p r hh
  unfold pEvery at hh
  cases h2 : A p with
  | error f => rw [h2] at hh; exact nomatch hh
  | ok t =>
    rw [h2] at hh
    exact everyN_x hA h1 _ _ _ _ (Ex_m (hA _ _ h2) (by omega)) hh
theorem someN_x {A : Int → PRes} {T : Int → Int} {e : Int} {h : Nat} (hA : ExA h A) (h1 : 1 ≤ h) : ∀ (m : Nat) (p : Int) (ss : List Int) (r : Int × List Int), Ex (h + 2) ss → someN A T e m p ss = .ok r → Ex (h + 2) r.2
  | 0, p, ss, r, g, hh => by
    unfold someN at hh
    injection hh with hh
    subst hh
    exact g
  | m + 1, p, ss, r, g, hh => by
    unfold someN at hh
    split at hh
    · cases h2 : pEvery A T e (lw T e (sk T e p)) with
      | error f => rw [h2] at hh; exact nomatch hh
      | ok t =>
        rw [h2] at hh
        exact someN_x hA h1 m _ _ _ (Ex_j g (pEvery_x hA h1 _ _ h2) (by omega) (by omega)) hh
    · injection hh with hh
      subst hh
      exact g
theorem pSome_x {A : Int → PRes} {T : Int → Int} {e : Int} {h : Nat} (hA : ExA h A) (h1 : 1 ≤ h) : ExA (h + 2) (pSome A T e) := by
  intro p r hh
  unfold pSome at hh
  cases h2 : pEvery A T e p with
  | error f => rw [h2] at hh; exact nomatch hh
  | ok t =>
    rw [h2] at hh
    exact someN_x hA h1 _ _ _ _ (Ex_m (pEvery_x hA h1 _ _ h2) (by omega)) hh
theorem pAtom_x {T : Int → Int} {e : Int} : ∀ (b : Nat), ExA (3 + 2 * b) (pAtom T e b)
  | 0 => by
    intro p r h
    unfold pAtom at h
    dsimp only at h
    split at h
    · exact nomatch h
    · exact pPlain_x _ _ h
  | b + 1 => by
    intro p r h
    unfold pAtom at h
    dsimp only at h
    split at h
    · cases h2 : pAtom T e b (lw T e (sk T e p)) with
      | error f => rw [h2] at h; exact nomatch h
      | ok t =>
        rw [h2] at h; injection h with h; subst h
        exact Ex_m (Ex_n (pAtom_x b _ _ h2) (by omega)) (by omega)
    · split at h
      · cases h2 : pSome (pAtom T e b) T e (sk T e p + 1) with
        | error f => rw [h2] at h; exact nomatch h
        | ok t =>
          rw [h2] at h
          dsimp only at h
          split at h
          · injection h with h; subst h
            have g := pSome_x (pAtom_x b) (by omega) _ _ h2
            exact Ex_m g (by omega)
          · exact nomatch h
      · exact Ex_m (pPlain_x _ _ h) (by omega)
def Wh (ss : List Int) (c : Nat) : Prop := wfS ss 0 ∧ dps ss 0 = 0 ∧ cntL ss = c
theorem Wh_l {h : Nat} {ss : List Int} {k n : Int} (g : Ex h ss) (hh : h ≤ 40) (hk : 0 ≤ k ∧ k < 6) (hn : 0 ≤ n ∧ n < 64) : Wh (ss ++ [8192 + 64 * k + n]) 1 := by
  obtain ⟨a1, a2⟩ := g.2 0 (by omega)
  have e : ln1 (8192 + 64 * k + n) 1 = 0 := by
    unfold ln1
    rw [if_neg (by omega), if_neg (by omega), if_pos (by omega)]
  refine ⟨wfS_app _ _ _ a1 ?_, ?_, ?_⟩
  · rw [a2]
    refine ⟨by omega, ⟨by omega, by omega, by omega, by omega⟩, ?_⟩
    show ln1 (8192 + 64 * k + n) 1 ≤ 40
    omega
  · rw [dps_app, a2]
    exact e
  · rw [cnt_app, g.1]
    show 0 + ((if (8192 + 64 * k + n) / 1024 = 8 then 1 else 0) + 0) = 1
    rw [if_pos (by omega)]
theorem pLine_x {T : Int → Int} {e p : Int} {r : Int × List Int} (h : pLine T e p = .ok r) : Wh r.2 1 := by
  unfold pLine at h
  dsimp only at h
  split at h
  · exact nomatch h
  · rename_i ck
    have hk := kwI_r SW 0 (by omega) SW_ne ck
    have hlen : (SW.length : Int) = 6 := rfl
    cases h2 : pFig T e 0 (if kwI T e (sk T e p) SW 0 < 4 then 60 else 9) (lw T e (sk T e p)) with
    | error f => rw [h2] at h; exact nomatch h
    | ok t =>
      rw [h2] at h
      dsimp only at h
      have hd := dg_lt h2
      have hd2 : t.2 ≤ 60 := by
        have := hd.2.2.2.1
        split at this <;> omega
      cases h3 : pIf T e t.1 with
      | error f => rw [h3] at h; exact nomatch h
      | ok u =>
        rw [h3] at h
        injection h with h
        subst h
        have g : Ex 17 u.2 := by
          unfold pIf at h3
          dsimp only at h3
          split at h3
          · exact pSome_x (pAtom_x 6) (by omega) _ _ h3
          · injection h3 with h3; subst h3
            exact Ex_m (Ex_1 (by omega)) (by omega)
        exact Wh_l g (by omega) (by omega) (by omega)
theorem Wh_app {ss tt : List Int} {c c' : Nat} (g : Wh ss c) (g2 : Wh tt c') : Wh (ss ++ tt) (c + c') := by
  obtain ⟨a1, a2, a3⟩ := g
  obtain ⟨b1, b2, b3⟩ := g2
  refine ⟨wfS_app _ _ _ a1 (by rw [a2]; exact b1), by rw [dps_app, a2]; exact b2, by rw [cnt_app, a3, b3]⟩
theorem linesN_x {T : Int → Int} {e : Int} : ∀ (m : Nat) (c : Nat) (p : Int) (ss : List Int) (r : Int × List Int), m + c = 12 → Wh ss c → linesN T e m c p ss = .ok r → ∃ c' : Nat, r.1 = c' ∧ c < c' ∧ c' ≤ 12 ∧ Wh r.2 c'
  | 0, c, p, ss, r, hm, g, h => by
    unfold linesN at h
    exact nomatch h
  | m + 1, c, p, ss, r, hm, g, h => by
    unfold linesN at h
    cases h2 : pLine T e p with
    | error f => rw [h2] at h; exact nomatch h
    | ok t =>
      rw [h2] at h
      dsimp only at h
      have g2 := Wh_app g (pLine_x h2)
      split at h
      · injection h with h
        subst h
        exact ⟨c + 1, rfl, by omega, by omega, g2⟩
      · split at h
        · obtain ⟨c', k1, k2, k3, k4⟩ := linesN_x m (c + 1) _ _ _ (by omega) g2 h
          exact ⟨c', k1, by omega, k3, k4⟩
        · exact nomatch h
theorem pLaw_x {T : Int → Int} {e : Int} {r : Int × List Int} (h : pLaw T e = .ok r) : (0 ≤ r.1 ∧ r.1 ≤ 12) ∧ wfS r.2 0 ∧ cntL r.2 ≤ 12 ∧ (r.1 = 0 → r.2 = []) := by
  unfold pLaw at h
  split at h
  · injection h with h
    subst h
    exact ⟨by dsimp only; omega, ⟨by show (0 : Nat) ≤ 40; omega, by show (0 : Nat) ≤ 12; omega, fun _ => rfl⟩⟩
  · obtain ⟨c', k1, k2, k3, k4⟩ := linesN_x 12 0 _ _ _ (by omega) ⟨by show (0 : Nat) ≤ 40; omega, rfl, rfl⟩ h
    exact ⟨by omega, k4.1, by rw [k4.2.2]; exact k3, fun x => by omega⟩
