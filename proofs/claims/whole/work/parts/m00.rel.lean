/-! THE PICTURE: what the machine's heap holds of the abstract one -/
abbrev GP : Type := va_G × (ClassId × ClassId × ClassId × ClassId) × (Nat → Prop) × (Nat → Nat) × Nat × (Nat → Int32)
def nf (k : Nat) : Nat := match vwCl[k]? with
  | some r => r.2.2
  | none => 0
def isRf (k j : Nat) : Bool := match vwCl[k]? with
  | some r => !decide ((r.2.1 j).2.2.1 = "I") && !decide ((r.2.1 j).2.2.1 = "Z")
  | none => false
def rfo (ad : Nat → Nat) (r : Nat) : Option Nat := if r = 0 then none else some (ad r)
def rz (ad : Nat → Nat) (v : Value) : Value := match v with
  | .ref r => va_rf (rfo ad r)
  | v => v
def flds (σ : HS) (ad : Nat → Nat) (k o : Nat) : List Value := (List.range (nf k)).map fun j => if isRf k j = true then va_rf (rfo ad (hR σ o j)) else .int (hI σ o j)
def ent (cA : ClassId × ClassId × ClassId × ClassId) (σ : HS) (ad : Nat → Nat) (o : Nat) : va_E :=
  if hK σ o = 20 then .inl (cA.1, hL σ o, .inl (hI σ o))
  else if hK σ o = 21 then .inl (cA.2.1, hL σ o, .inr (.inl (hJ σ o)))
  else if hK σ o = 22 then .inl (cA.2.2.1, hL σ o, .inl (hI σ o))
  else if hK σ o = 23 then .inl (cA.2.2.2, hL σ o, .inr (.inr (.inr (.inr fun j => rfo ad (hR σ o j)))))
  else .inr (hK σ o, flds σ ad (hK σ o) o)
def wsL (cA : ClassId × ClassId × ClassId × ClassId) (σ : HS) (ad : Nat → Nat) : va_W := (List.range (hN σ - 79)).map fun i => (ad (79 + i), ent cA σ ad (79 + i))
def kOK (k : Nat) : Prop := k < 13 ∨ k = 20 ∨ k = 21 ∨ k = 22 ∨ k = 23
/-- the strings' texts, as their bytes say -/
def wfSx (tx : Nat → List Int32) (L : Nat) (xs : Nat → Int32) (σ : HS) : Prop :=
  79 ≤ hN σ ∧ hK σ 0 = 98 ∧ (∀ k, 1 ≤ k → k ≤ 77 → hK σ k = 30) ∧ hK σ 78 = 25 ∧ (∀ o, 79 ≤ o → o < hN σ → kOK (hK σ o)) ∧ (∀ o, hN σ ≤ o → hK σ o = 99) ∧ (∀ o j, hR σ o j < hN σ) ∧
  (∀ k, 1 ≤ k → k ≤ 77 → hL σ k = (tx k).length ∧ ∀ j, j < (tx k).length → hI σ k j = (tx k).getD j 0) ∧ hL σ 78 = L ∧ ∀ j, j < L → hI σ 78 j = xs j
theorem wsL_len {cA : ClassId × ClassId × ClassId × ClassId} {σ : HS} {ad : Nat → Nat} : (wsL cA σ ad).length = hN σ - 79 := by simp [wsL]
theorem wsL_at {cA : ClassId × ClassId × ClassId × ClassId} {σ : HS} {ad : Nat → Nat} {o : Nat} (h1 : 79 ≤ o) (h2 : o < hN σ) : (wsL cA σ ad)[o - 79]? = some (ad o, ent cA σ ad o) := by
  unfold wsL
  rw [List.getElem?_map, List.getElem?_range (by omega)]
  simp only [Option.map_some]
  rw [Nat.add_sub_cancel' h1]
theorem wsL_in {cA : ClassId × ClassId × ClassId × ClassId} {σ : HS} {ad : Nat → Nat} {k : Nat} {q : Nat × va_E} (h : (wsL cA σ ad)[k]? = some q) : k < hN σ - 79 ∧ q = (ad (79 + k), ent cA σ ad (79 + k)) := by
  have hl : k < hN σ - 79 := by
    have := (List.getElem?_eq_some_iff.mp h).1
    rwa [wsL_len] at this
  have h2 := wsL_at (cA := cA) (σ := σ) (ad := ad) (o := 79 + k) (by omega) (by omega)
  rw [Nat.add_sub_cancel_left] at h2
  rw [h2] at h
  exact ⟨hl, (Option.some.inj h).symm⟩
theorem ent_congr {cA : ClassId × ClassId × ClassId × ClassId} {σ σ' : HS} {ad ad' : Nat → Nat} {o : Nat} (hk : hK σ' o = hK σ o) (hl : hL σ' o = hL σ o) (hi : hI σ' o = hI σ o) (hj : hJ σ' o = hJ σ o) (hr : ∀ j, rfo ad' (hR σ' o j) = rfo ad (hR σ o j)) : ent cA σ' ad' o = ent cA σ ad o := by
  unfold ent flds
  simp only [hk, hl, hi, hj, hr]
/-- one object's cell is another now -/
theorem wsL_set {cA : ClassId × ClassId × ClassId × ClassId} {σ σ' : HS} {ad : Nat → Nat} {a : Nat} (hn : hN σ' = hN σ) (h1 : 79 ≤ a) (h2 : a < hN σ) (h : ∀ o, o ≠ a → ent cA σ' ad o = ent cA σ ad o) {e : va_E} (he : ent cA σ' ad a = e) : (wsL cA σ ad).set (a - 79) (ad a, e) = wsL cA σ' ad := by
  refine List.ext_getElem? fun k => ?_
  by_cases hk : k < hN σ - 79
  · have h3 := wsL_at (cA := cA) (σ := σ') (ad := ad) (o := 79 + k) (by omega) (by rw [hn]; omega)
    have h4 := wsL_at (cA := cA) (σ := σ) (ad := ad) (o := 79 + k) (by omega) (by omega)
    rw [Nat.add_sub_cancel_left] at h3 h4
    by_cases hka : k = a - 79
    · subst hka
      rw [List.getElem?_set_self (by rw [wsL_len]; exact hk), h3]
      rw [Nat.add_sub_cancel' h1, he]
    · rw [List.getElem?_set_ne (Ne.symm hka), h3, h4, h (79 + k) (by omega)]
  · rw [List.getElem?_eq_none (by rw [List.length_set, wsL_len]; omega), List.getElem?_eq_none (by rw [wsL_len, hn]; omega)]
/-- one object more -/
theorem wsL_push {cA : ClassId × ClassId × ClassId × ClassId} {σ σ' : HS} {ad ad' : Nat → Nat} (hn : hN σ' = hN σ + 1) (h0 : 79 ≤ hN σ) (h : ∀ o, o < hN σ → ent cA σ' ad' o = ent cA σ ad o) (ha : ∀ o, o < hN σ → ad' o = ad o) {q : Nat} {e : va_E} (hq : ad' (hN σ) = q) (he : ent cA σ' ad' (hN σ) = e) : wsL cA σ ad ++ [(q, e)] = wsL cA σ' ad' := by
  refine List.ext_getElem? fun k => ?_
  by_cases hk : k < hN σ - 79
  · have h3 := wsL_at (cA := cA) (σ := σ') (ad := ad') (o := 79 + k) (by omega) (by omega)
    have h4 := wsL_at (cA := cA) (σ := σ) (ad := ad) (o := 79 + k) (by omega) (by omega)
    rw [Nat.add_sub_cancel_left] at h3 h4
    rw [List.getElem?_append_left (by rw [wsL_len]; exact hk), h3, h4, h (79 + k) (by omega), ha (79 + k) (by omega)]
  · by_cases hk2 : k = hN σ - 79
    · subst hk2
      have h3 := wsL_at (cA := cA) (σ := σ') (ad := ad') (o := hN σ) (by omega) (by omega)
      rw [List.getElem?_append_right (by rw [wsL_len]; omega), wsL_len, Nat.sub_self, h3, hq, he]
      rfl
    · rw [List.getElem?_eq_none (by rw [List.length_append, wsL_len, List.length_singleton]; omega), List.getElem?_eq_none (by rw [wsL_len, hn]; omega)]
/-- the whole picture -/
def RelH (tx : Nat → List Int32) (G : GP) (σ : HS) (ad : Nat → Nat) (H : Heap) : Prop :=
  wfSx tx G.2.2.2.2.1 G.2.2.2.2.2 σ ∧ va_P G.1 vwCl (wsL G.2.1 σ ad) H ∧ va_D G.2.2.1 (wsL G.2.1 σ ad) ∧ ∀ k, k ≤ 78 → ad k = G.2.2.2.1 k
/-- a value that the heap knows -/
def vok (n : Nat) (v : Value) : Prop := match v with
  | .ref r => r < n
  | .int _ => True
  | .long _ => True
  | .retAddr _ => True
  | _ => False
def known (v : Value) : Bool := match v with
  | .retAddr _ => false
  | _ => true
/-- the frame's locals -/
def lvR (ad : Nat → Nat) (n : Nat) (S : Array Slot) (ls : List Value) : Prop := S.size = ls.length ∧ lv_wf S ∧ ∀ (i : Nat) (v : Value), ls[i]? = some v → vok n v ∧ (known v = true → S[i]? = some (Slot.val (rz ad v)))
theorem RelH.range {tx : Nat → List Int32} {G : GP} {σ : HS} {ad : Nat → Nat} {H : Heap} (h : RelH tx G σ ad H) {a c : Nat} (hk : hK σ a = c) (hc : kOK c) : 79 ≤ a ∧ a < hN σ := by
  obtain ⟨⟨h1, h2, h3, h4, h5, h6, -⟩, -⟩ := h
  have hx : ∀ c', c = c' → kOK c' → c' = 98 ∨ c' = 30 ∨ c' = 25 ∨ c' = 99 → False := by
    intro c' _ hk he
    rcases hk with h | h | h | h | h <;> rcases he with e | e | e | e <;> omega
  refine ⟨?_, ?_⟩
  · rcases Nat.lt_or_ge a 79 with q | q
    · exfalso
      by_cases a0 : a = 0
      · subst a0; exact hx c rfl hc (by omega)
      · by_cases a1 : a = 78
        · subst a1; exact hx c rfl hc (by omega)
        · have := h3 a (by omega) (by omega)
          exact hx c rfl hc (by omega)
    · exact q
  · rcases Nat.lt_or_ge a (hN σ) with q | q
    · exact q
    · have := h6 a q
      exact (hx c rfl hc (by omega)).elim
