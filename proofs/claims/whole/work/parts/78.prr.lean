/-! the reference's reading of the law: numbers, parts, sums -/
def PR_ (A : Int → PRes) (e : Int) : Prop := ∀ p r, p ≤ e → A p = .ok r → p < r.1 ∧ r.1 ≤ e
theorem kwI_r {T : Int → Int} {e q : Int} : ∀ (ls : List (List Int)) (i : Int), 0 ≤ i → (∀ l ∈ ls, l ≠ []) → kwI T e q ls i ≠ -1 → q < e ∧ q < lw T e q ∧ lw T e q ≤ e ∧ i ≤ kwI T e q ls i ∧ kwI T e q ls i < i + ls.length
  | [], i, _, _, h => (h rfl).elim
  | l :: ls, i, h0, hl, h => by
    unfold kwI at h ⊢
    rw [List.length_cons]
    by_cases c : hasB T e q l = true
    · have := has_lt c (hl l List.mem_cons_self)
      rw [if_pos c]
      omega
    · rw [if_neg c] at h ⊢
      have := kwI_r ls (i + 1) (by omega) (fun x hx => hl x (List.mem_cons_of_mem _ hx)) h
      omega
theorem FW_ne : ∀ l ∈ FW, l ≠ [] := by decide
theorem SW_ne : ∀ l ∈ SW, l ≠ [] := by decide
theorem pPart_r {T : Int → Int} {e : Int} : PR_ (pPart T e) e := by
  intro p r hp h
  have hs := sk_r T e p
  unfold pPart at h
  dsimp only at h
  by_cases c : isD T e (sk T e p) = true
  · rw [if_pos c] at h
    cases h2 : pFig T e 0 999 (sk T e p) with
    | error f => rw [h2] at h; exact nomatch h
    | ok t =>
      rw [h2] at h
      injection h with h
      subst h
      have := dg_lt h2
      rw [sk_sk] at this
      dsimp only
      omega
  · rw [if_neg c] at h
    by_cases c2 : kwI T e (sk T e p) FW 0 = -1
    · rw [if_pos c2] at h; exact nomatch h
    · rw [if_neg c2] at h
      injection h with h
      subst h
      have := kwI_r FW 0 (by omega) FW_ne c2
      dsimp only
      omega
theorem sg_lt {T : Int → Int} {e p c : Int} (h : sgB T e p c = true) : p < e ∧ T p = c := by
  unfold sgB at h
  rw [Bool.and_eq_true] at h
  exact ⟨of_decide_eq_true h.1, of_decide_eq_true h.2⟩
theorem sumN_r {T : Int → Int} {e : Int} : ∀ (n : Nat) (p : Int) (ss : List Int) (r : Int × List Int), p ≤ e → sumN T e n p ss = .ok r → p ≤ r.1 ∧ r.1 ≤ e
  | 0, p, ss, r, hp, h => by
    have hs := sk_r T e p
    unfold sumN at h
    injection h with h
    subst h
    dsimp only
    omega
  | n + 1, p, ss, r, hp, h => by
    have hs := sk_r T e p
    unfold sumN at h
    by_cases c : sgB T e (sk T e p) 43 = true
    · rw [if_pos c] at h
      have := sg_lt c
      cases h2 : pPart T e (sk T e p + 1) with
      | error f => rw [h2] at h; exact nomatch h
      | ok t =>
        rw [h2] at h
        have h3 := pPart_r _ t (by omega) h2
        have := sumN_r n _ _ _ (by omega) h
        omega
    · rw [if_neg c] at h
      injection h with h
      subst h
      dsimp only
      omega
theorem pSum_r {T : Int → Int} {e : Int} : PR_ (pSum T e) e := by
  intro p r hp h
  unfold pSum at h
  cases h2 : pPart T e p with
  | error f => rw [h2] at h; exact nomatch h
  | ok t =>
    rw [h2] at h
    have h3 := pPart_r _ t hp h2
    have := sumN_r _ _ _ _ h3.2 h
    omega
theorem pPlain_r {T : Int → Int} {e : Int} : PR_ (pPlain T e) e := by
  intro p r hp h
  have hs := sk_r T e p
  unfold pPlain at h
  dsimp only at h
  by_cases c : hasB T e (sk T e p) W_wet = true
  · rw [if_pos c] at h
    have := has_lt c (by decide)
    injection h with h
    subst h
    dsimp only
    omega
  · rw [if_neg c] at h
    cases h2 : pSum T e (sk T e p) with
    | error f => rw [h2] at h; exact nomatch h
    | ok t =>
      rw [h2] at h
      dsimp only at h
      have h3 := pSum_r _ t (by omega) h2
      have hs2 := sk_r T e t.1
      by_cases c1 : sgB T e (sk T e t.1) 60 = true
      · rw [if_pos c1] at h
        have := sg_lt c1
        cases h4 : pSum T e (sk T e t.1 + 1) with
        | error f => rw [h4] at h; exact nomatch h
        | ok u =>
          rw [h4] at h
          have := pSum_r _ u (by omega) h4
          injection h with h
          subst h
          dsimp only
          omega
      · rw [if_neg c1] at h
        by_cases c2 : sgB T e (sk T e t.1) 62 = true
        · rw [if_pos c2] at h
          have := sg_lt c2
          cases h4 : pSum T e (sk T e t.1 + 1) with
          | error f => rw [h4] at h; exact nomatch h
          | ok u =>
            rw [h4] at h
            have := pSum_r _ u (by omega) h4
            injection h with h
            subst h
            dsimp only
            omega
        · rw [if_neg c2] at h; exact nomatch h
theorem everyN_r {A : Int → PRes} {T : Int → Int} {e : Int} (hA : PR_ A e) : ∀ (n : Nat) (p : Int) (ss : List Int) (r : Int × List Int), p ≤ e → everyN A T e n p ss = .ok r → p ≤ r.1 ∧ r.1 ≤ e
  | 0, p, ss, r, hp, h => by
    have hs := sk_r T e p
    unfold everyN at h
    injection h with h
    subst h
    dsimp only
    omega
  | n + 1, p, ss, r, hp, h => by
    have hs := sk_r T e p
    unfold everyN at h
    by_cases c : hasB T e (sk T e p) W_and = true
    · rw [if_pos c] at h
      have := has_lt c (by decide)
      cases h2 : A (lw T e (sk T e p)) with
      | error f => rw [h2] at h; exact nomatch h
      | ok t =>
        rw [h2] at h
        have h3 := hA _ t (by omega) h2
        have := everyN_r hA n _ _ _ (by omega) h
        omega
    · rw [if_neg c] at h
      injection h with h
      subst h
      dsimp only
      omega
theorem pEvery_r {A : Int → PRes} {T : Int → Int} {e : Int} (hA : PR_ A e) : PR_ (pEvery A T e) e := by
  intro p r hp h
  unfold pEvery at h
  cases h2 : A p with
  | error f => rw [h2] at h; exact nomatch h
  | ok t =>
    rw [h2] at h
    have h3 := hA _ t hp h2
    have := everyN_r hA _ _ _ _ h3.2 h
    omega
theorem someN_r {A : Int → PRes} {T : Int → Int} {e : Int} (hA : PR_ A e) : ∀ (n : Nat) (p : Int) (ss : List Int) (r : Int × List Int), p ≤ e → someN A T e n p ss = .ok r → p ≤ r.1 ∧ r.1 ≤ e
  | 0, p, ss, r, hp, h => by
    have hs := sk_r T e p
    unfold someN at h
    injection h with h
    subst h
    dsimp only
    omega
  | n + 1, p, ss, r, hp, h => by
    have hs := sk_r T e p
    unfold someN at h
    by_cases c : hasB T e (sk T e p) W_or = true
    · rw [if_pos c] at h
      have := has_lt c (by decide)
      cases h2 : pEvery A T e (lw T e (sk T e p)) with
      | error f => rw [h2] at h; exact nomatch h
      | ok t =>
        rw [h2] at h
        have h3 := pEvery_r hA _ t (by omega) h2
        have := someN_r hA n _ _ _ (by omega) h
        omega
    · rw [if_neg c] at h
      injection h with h
      subst h
      dsimp only
      omega
theorem pSome_r {A : Int → PRes} {T : Int → Int} {e : Int} (hA : PR_ A e) : PR_ (pSome A T e) e := by
  intro p r hp h
  unfold pSome at h
  cases h2 : pEvery A T e p with
  | error f => rw [h2] at h; exact nomatch h
  | ok t =>
    rw [h2] at h
    have h3 := pEvery_r hA _ t hp h2
    have := someN_r hA _ _ _ _ h3.2 h
    omega
theorem pAtom_r {T : Int → Int} {e : Int} : ∀ (b : Nat), PR_ (pAtom T e b) e
  | 0 => by
    intro p r hp h
    have hs := sk_r T e p
    unfold pAtom at h
    dsimp only at h
    by_cases c : (hasB T e (sk T e p) W_not || sgB T e (sk T e p) 40) = true
    · rw [if_pos c] at h; exact nomatch h
    · rw [if_neg c] at h
      have := pPlain_r _ r (by omega) h
      omega
  | b + 1 => by
    intro p r hp h
    have hs := sk_r T e p
    unfold pAtom at h
    dsimp only at h
    by_cases c : hasB T e (sk T e p) W_not = true
    · rw [if_pos c] at h
      have := has_lt c (by decide)
      cases h2 : pAtom T e b (lw T e (sk T e p)) with
      | error f => rw [h2] at h; exact nomatch h
      | ok t =>
        rw [h2] at h
        have h3 := pAtom_r b _ t (by omega) h2
        injection h with h
        subst h
        dsimp only
        omega
    · rw [if_neg c] at h
      by_cases c1 : sgB T e (sk T e p) 40 = true
      · rw [if_pos c1] at h
        have := sg_lt c1
        cases h2 : pSome (pAtom T e b) T e (sk T e p + 1) with
        | error f => rw [h2] at h; exact nomatch h
        | ok t =>
          rw [h2] at h
          dsimp only at h
          have h3 := pSome_r (pAtom_r b) _ t (by omega) h2
          have hs2 := sk_r T e t.1
          by_cases c2 : sgB T e (sk T e t.1) 41 = true
          · rw [if_pos c2] at h
            have := sg_lt c2
            injection h with h
            subst h
            dsimp only
            omega
          · rw [if_neg c2] at h; exact nomatch h
      · rw [if_neg c1] at h
        have := pPlain_r _ r (by omega) h
        omega
