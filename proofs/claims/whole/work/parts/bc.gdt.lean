/-! a throw keeps the fair sound -/
theorem sm_1 {f g : Int → Int} {p : Int} (h : f p = g p + 1) (ho : ∀ j, j ≠ p → f j = g j) : ∀ (n : Nat) (k : Int), sm f k n = sm g k n + (if k ≤ p ∧ p < k + n then 1 else 0)
  | 0, k => by
    rw [if_neg (by omega)]
    rfl
  | n + 1, k => by
    have e1 : sm f k (n + 1) = f k + sm f (k + 1) n := rfl
    have e2 : sm g k (n + 1) = g k + sm g (k + 1) n := rfl
    rw [e1, e2, sm_1 h ho n (k + 1)]
    by_cases c : k = p
    · subst c
      rw [h, if_neg (by omega), if_pos (by omega)]
      omega
    · rw [ho k c]
      by_cases c2 : k + 1 ≤ p ∧ p < k + 1 + n
      · rw [if_pos c2, if_pos (by omega)]
        omega
      · rw [if_neg c2, if_neg (by omega)]
        omega
/-- where the log's cells are -/
theorem log_c {m : Int → Int} {p h x y c k : Int} (h14 : 0 ≤ m 14 ∧ m 14 ≤ 60) : (∀ j, 0 ≤ j → j < 6 → logF m p h x y c k (232 + j) = (if j = 0 then p else if j = 1 then h else if j = 2 then x else if j = 3 then y else if j = 4 then c else k)) ∧ ∀ z, 238 ≤ z → z < 232 + 6 * logF m p h x y c k 14 → logF m p h x y c k z = m (z - 6) := by
  obtain ⟨n, hn⟩ : ∃ n, n = (if m 14 = 60 then dropT m else m) := ⟨_, rfl⟩
  have eL : logF m p h x y c k = setm (setm (setm (setm (setm (setm (openT n) 232 p) 233 h) 234 x) 235 y) 236 c) 237 k := by rw [hn]; rfl
  have e14 := (log_14 (m := m) (p := p) (h := h) (x := x) (y := y) (c := c) (k := k) h14).1
  rw [e14, eL]
  refine ⟨fun j a b => ?_, fun z a b => ?_⟩
  · have : j = 0 ∨ j = 1 ∨ j = 2 ∨ j = 3 ∨ j = 4 ∨ j = 5 := by omega
    rcases this with e | e | e | e | e | e <;> subst e <;> rfl
  · have zb : z < 592 := by
      by_cases q : m 14 = 60
      · rw [if_pos q] at b; omega
      · rw [if_neg q] at b; omega
    rw [setm_o _ (by omega), setm_o _ (by omega), setm_o _ (by omega), setm_o _ (by omega), setm_o _ (by omega), setm_o _ (by omega)]
    have eo : openT n z = n (z - 6) := by
      unfold openT
      rw [if_neg (by omega), if_pos (by omega), if_neg (by omega)]
    rw [eo, hn]
    by_cases q : m 14 = 60
    · rw [if_pos q]
      unfold dropT
      rw [if_neg (by omega), if_pos (by omega), if_pos (by omega)]
    · rw [if_neg q]
theorem PLg_log {m m4 : Int → Int} {p h x y c k : Int} (hG : PLg m) (h14 : 0 ≤ m 14 ∧ m 14 ≤ 60) (e14 : m4 14 = m 14) (e3 : m4 3 = m 3 ∧ m4 4 = m 4 ∧ m4 5 = m 5) (et : ∀ z, 232 ≤ z → m4 z = m z) (hr : (0 ≤ p ∧ p < m 5) ∧ (0 ≤ h ∧ h < m 4) ∧ (-2000 ≤ x ∧ x ≤ 2000) ∧ (-2000 ≤ y ∧ y ≤ 2000) ∧ (-2 ≤ c ∧ c < m 3) ∧ -1 ≤ k ∧ k < m 3) : PLg (logF m4 p h x y c k) := by
  have kl : kp m4 (logF m4 p h x y c k) := kp_log
  obtain ⟨c1, c2⟩ := log_c (m := m4) (p := p) (h := h) (x := x) (y := y) (c := c) (k := k) (by omega)
  have l14 := (log_14 (m := m4) (p := p) (h := h) (x := x) (y := y) (c := c) (k := k) (by omega)).1
  intro i i1 i2
  rw [kl 3 (by omega), kl 4 (by omega), kl 5 (by omega), e3.1, e3.2.1, e3.2.2]
  by_cases ci : i = 0
  · subst ci
    have g : ∀ j, 0 ≤ j → j < 6 → lg (logF m4 p h x y c k) 0 j = (if j = 0 then p else if j = 1 then h else if j = 2 then x else if j = 3 then y else if j = 4 then c else k) := fun j a b => c1 j a b
    rw [g 0 (by omega) (by omega), g 1 (by omega) (by omega), g 2 (by omega) (by omega), g 3 (by omega) (by omega), g 4 (by omega) (by omega), g 5 (by omega) (by omega)]
    exact hr
  · have g : ∀ j, 0 ≤ j → j < 6 → lg (logF m4 p h x y c k) i j = lg m (i - 1) j := fun j a b => by
      unfold lg
      rw [c2 _ (by omega) (by omega), et _ (by omega)]
      congr 1
      omega
    rw [g 0 (by omega) (by omega), g 1 (by omega) (by omega), g 2 (by omega) (by omega), g 3 (by omega) (by omega), g 4 (by omega) (by omega), g 5 (by omega) (by omega)]
    refine hG (i - 1) (by omega) ?_
    by_cases q : m4 14 = 60
    · rw [if_pos q] at l14; omega
    · rw [if_neg q] at l14; omega
