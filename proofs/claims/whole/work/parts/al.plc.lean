/-! places: the fewest places, and which -/
def andN (s : Nat) (y : Int32) : Nat := s &&& y.toBitVec.toNat
theorem w_bv {s : Nat} (h : s < 1024) : (w (s : Int)).toBitVec.toNat = s := by
  have : ∀ s : Fin 1024, (w (s.val : Int)).toBitVec.toNat = s.val := by decide +kernel
  exact this ⟨s, h⟩
theorem andN_w {s : Nat} (h : s < 1024) (y : Int32) : (w (s : Int) &&& y) = w ((andN s y : Nat) : Int) := by
  have h2 : andN s y < 1024 := Nat.lt_of_le_of_lt Nat.and_le_left h
  rw [← Int32.toBitVec_inj]
  apply BitVec.eq_of_toNat_eq
  rw [Int32.toBitVec_and, BitVec.toNat_and, w_bv h, w_bv h2]
  rfl
theorem tb_xor (x : Int32) {k : Nat} (h : k < 32) : tb32 (x ^^^ w (-1)) k = !tb32 x k := by
  unfold tb32
  have e : (w (-1)).toBitVec = BitVec.allOnes 32 := by decide
  rw [Int32.toBitVec_xor, BitVec.getLsbD_xor, e, BitVec.getLsbD_allOnes, decide_eq_true h, Bool.xor_true]
theorem andN_t {s : Nat} {y : Int32} (k : Nat) : (andN s y).testBit k = (s.testBit k && tb32 y k) := by
  unfold andN tb32
  rw [Nat.testBit_and]
  rfl
def dif (R : Nat → Int32) (s c : Nat) : Nat := andN s (R c ^^^ w (-1))
theorem dif_le (R : Nat → Int32) (s c : Nat) : dif R s c ≤ s := Nat.and_le_left
theorem hi_t {s : Nat} (h : s < 1024) {k : Nat} (hk : 32 ≤ k) : s.testBit k = false := Nat.testBit_lt_two_pow (Nat.lt_of_lt_of_le h (Nat.le_trans (by decide : 1024 ≤ 2 ^ 32) (Nat.pow_le_pow_right (by omega) hk)))
theorem dif_t {R : Nat → Int32} {s c : Nat} (h : s < 1024) (k : Nat) : (dif R s c).testBit k = (s.testBit k && !tb32 (R c) k) := by
  unfold dif
  rw [andN_t]
  by_cases hk : k < 32
  · rw [tb_xor _ hk]
  · rw [hi_t h (by omega), Bool.false_and, Bool.false_and]
theorem dif_lt {R : Nat → Int32} {s c : Nat} (h : s < 1024) : dif R s c < 1024 := Nat.lt_of_le_of_lt (dif_le R s c) h
theorem dif_0 {R : Nat → Int32} {s c : Nat} (h : s < 1024) : andN s (R c) = 0 ↔ dif R s c = s := by
  constructor
  · intro z
    apply Nat.eq_of_testBit_eq
    intro k
    have h1 := andN_t (s := s) (y := R c) k
    rw [z, Nat.zero_testBit] at h1
    rw [dif_t h]
    cases a : s.testBit k with
    | false => rfl
    | true =>
      rw [a, Bool.true_and] at h1
      rw [← h1]
      rfl
  · intro z
    apply Nat.eq_of_testBit_eq
    intro k
    have h1 := dif_t (R := R) (c := c) h k
    rw [z] at h1
    rw [andN_t, Nat.zero_testBit]
    cases a : s.testBit k with
    | false => rfl
    | true =>
      rw [a, Bool.true_and] at h1
      cases b : tb32 (R c) k with
      | false => rfl
      | true => rw [b] at h1; exact nomatch h1
theorem dif_ii {R : Nat → Int32} {s c : Nat} (h : s < 1024) : dif R (dif R s c) c = dif R s c := by
  apply Nat.eq_of_testBit_eq
  intro k
  rw [dif_t (dif_lt h), dif_t h, Bool.and_assoc, Bool.and_self]
theorem dif_cm {R : Nat → Int32} {s a b : Nat} (h : s < 1024) : dif R (dif R s a) b = dif R (dif R s b) a := by
  apply Nat.eq_of_testBit_eq
  intro k
  rw [dif_t (dif_lt h), dif_t h, dif_t (dif_lt h), dif_t h, Bool.and_assoc, Bool.and_assoc, Bool.and_comm (!tb32 (R a) k)]
theorem dif_up {R : Nat → Int32} {s a b : Nat} (h : s < 1024) (e : dif R s b = s) : dif R (dif R s a) b = dif R s a := by
  rw [dif_cm h, e]
def Dv (R : Nat → Int32) : Nat → Nat → Int
  | 0, _ => 0
  | n + 1, s => if s = 0 then 0 else fP (fun c a => if (!decide (dif R s c.toNat = s)) = true then min (Dv R n (dif R s c.toNat) + 1) a else a) 0 60 1000000000
def Dm (R : Nat → Int32) (s : Nat) : Int := Dv R s s
theorem Dv_i {R : Nat → Int32} : ∀ (n n' s : Nat), s ≤ n → s ≤ n' → Dv R n s = Dv R n' s
  | 0, n', s, h1, _ => by
    have hs : s = 0 := by omega
    subst hs
    cases n' with
    | zero => rfl
    | succ n' => unfold Dv; rw [if_pos rfl]
  | n + 1, n', s, h1, h2 => by
    by_cases hs : s = 0
    · subst hs
      cases n' with
      | zero => unfold Dv; rw [if_pos rfl]
      | succ n' => unfold Dv; rw [if_pos rfl, if_pos rfl]
    · cases n' with
      | zero => omega
      | succ n' =>
        have e1 : Dv R (n + 1) s = if s = 0 then 0 else fP (fun c a => if (!decide (dif R s c.toNat = s)) = true then min (Dv R n (dif R s c.toNat) + 1) a else a) 0 60 1000000000 := rfl
        have e2 : Dv R (n' + 1) s = if s = 0 then 0 else fP (fun c a => if (!decide (dif R s c.toNat = s)) = true then min (Dv R n' (dif R s c.toNat) + 1) a else a) 0 60 1000000000 := rfl
        rw [e1, e2, if_neg hs, if_neg hs]
        refine fP_c _ _ _ (fun c a _ _ => ?_)
        by_cases hc : dif R s c.toNat = s
        · rw [decide_eq_true hc]; rfl
        · have := dif_le R s c.toNat
          rw [Dv_i n n' (dif R s c.toNat) (by omega) (by omega)]
theorem Dm_0 (R : Nat → Int32) : Dm R 0 = 0 := rfl
theorem Dm_e {R : Nat → Int32} {s : Nat} (hs : s ≠ 0) : Dm R s = fP (fun c a => if (!decide (dif R s c.toNat = s)) = true then min (Dm R (dif R s c.toNat) + 1) a else a) 0 60 1000000000 := by
  cases s with
  | zero => exact (hs rfl).elim
  | succ n =>
    have e1 : Dm R (n + 1) = if n + 1 = 0 then 0 else fP (fun c a => if (!decide (dif R (n + 1) c.toNat = n + 1)) = true then min (Dv R n (dif R (n + 1) c.toNat) + 1) a else a) 0 60 1000000000 := rfl
    rw [e1, if_neg (by omega)]
    refine fP_c _ _ _ (fun c a _ _ => ?_)
    by_cases hc : dif R (n + 1) c.toNat = n + 1
    · rw [decide_eq_true hc]; rfl
    · have := dif_le R (n + 1) c.toNat
      unfold Dm
      rw [Dv_i n (dif R (n + 1) c.toNat) (dif R (n + 1) c.toNat) (by omega) (by omega)]
theorem Dm_b {R : Nat → Int32} : ∀ (n s : Nat), s ≤ n → 0 ≤ Dm R s ∧ Dm R s ≤ 1000000000 ∧ (s ≠ 0 → 1 ≤ Dm R s)
  | 0, s, h => by
    have hs : s = 0 := by omega
    subst hs
    rw [Dm_0]
    exact ⟨by omega, by omega, fun z => absurd rfl z⟩
  | n + 1, s, h => by
    by_cases hs : s = 0
    · subst hs
      rw [Dm_0]
      exact ⟨by omega, by omega, fun z => absurd rfl z⟩
    · have hm := fP_minS (S := fun c => !decide (dif R s c.toNat = s)) (f := fun c => Dm R (dif R s c.toNat) + 1) 60 0 1000000000
      rw [← Dm_e hs] at hm
      rcases hm.2 with e | ⟨j, j1, j2⟩
      · omega
      · have hc : dif R s j.toNat ≠ s := fun z => by
          have := j1.2.2
          rw [decide_eq_true z] at this
          exact nomatch this
        have := dif_le R s j.toNat
        have := Dm_b (R := R) n (dif R s j.toNat) (by omega)
        have := hm.1.1
        omega
theorem Dm_le {R : Nat → Int32} {s c : Nat} (hc : c < 60) : Dm R s ≤ Dm R (dif R s c) + 1 := by
  by_cases hs : s = 0
  · subst hs
    have := (Dm_b (R := R) _ (dif R 0 c) (Nat.le_refl _)).1
    rw [Dm_0]
    omega
  · by_cases e : dif R s c = s
    · rw [e]; omega
    · have hm := fP_minS (S := fun c => !decide (dif R s c.toNat = s)) (f := fun c => Dm R (dif R s c.toNat) + 1) 60 0 1000000000
      rw [← Dm_e hs] at hm
      have := hm.1.2 (c : Int) (by omega) (by omega) (by rw [Int.toNat_natCast, decide_eq_false e]; rfl)
      rw [Int.toNat_natCast] at this
      exact this
theorem Dm_x {R : Nat → Int32} {s : Nat} (hs : s ≠ 0) (h : Dm R s < 1000000000) : ∃ c, (c < 60 ∧ dif R s c ≠ s) ∧ Dm R s = Dm R (dif R s c) + 1 := by
  have hm := fP_minS (S := fun c => !decide (dif R s c.toNat = s)) (f := fun c => Dm R (dif R s c.toNat) + 1) 60 0 1000000000
  rw [← Dm_e hs] at hm
  rcases hm.2 with e | ⟨j, j1, j2⟩
  · omega
  · refine ⟨j.toNat, ⟨by omega, fun z => ?_⟩, j2⟩
    have := j1.2.2
    rw [decide_eq_true z] at this
    exact nomatch this
def fsE (p : Nat → Bool) (c : Nat) : Nat → Nat
  | 0 => c
  | q + 1 => if p c = true then c else fsE p (c + 1) q
theorem fsE_x {p : Nat → Bool} : ∀ (q c : Nat), (fsE p c q < c + q ↔ ∃ j, (c ≤ j ∧ j < c + q) ∧ p j = true) ∧ c ≤ fsE p c q ∧ (fsE p c q < c + q → p (fsE p c q) = true)
  | 0, c => by
    have e : fsE p c 0 = c := rfl
    rw [e]
    exact ⟨⟨fun h => by omega, fun ⟨j, h, _⟩ => by omega⟩, Nat.le_refl _, fun h => by omega⟩
  | q + 1, c => by
    have e : fsE p c (q + 1) = if p c = true then c else fsE p (c + 1) q := rfl
    have ih := fsE_x (p := p) q (c + 1)
    rw [e]
    by_cases h : p c = true
    · rw [if_pos h]
      exact ⟨⟨fun _ => ⟨c, by omega, h⟩, fun _ => by omega⟩, Nat.le_refl _, fun _ => h⟩
    · rw [if_neg h]
      refine ⟨⟨fun z => ?_, fun z => ?_⟩, by omega, fun z => ih.2.2 (by omega)⟩
      · obtain ⟨j, j1, j2⟩ := ih.1.mp (by omega)
        exact ⟨j, by omega, j2⟩
      · obtain ⟨j, j1, j2⟩ := z
        have hne : j ≠ c := fun y => h (by rw [← y]; exact j2)
        have := ih.1.mpr ⟨j, by omega, j2⟩
        omega
def exB (R : Nat → Int32) : Nat → Nat → Nat → Bool
  | 0, _, s => decide (s = 0)
  | j + 1, f, s => !decide (s = 0) && decide (fsE (fun c => !decide (dif R s c = s) && exB R j (c + 1) (dif R s c)) f (60 - f) < 60)
def rwE (R : Nat → Int32) : Nat → Nat → Nat → Nat → Nat
  | 0, _, _, _ => 0
  | j + 1, f, s, i => if i = 0 then fsE (fun c => !decide (dif R s c = s) && exB R j (c + 1) (dif R s c)) f (60 - f) else rwE R j (fsE (fun c => !decide (dif R s c = s) && exB R j (c + 1) (dif R s c)) f (60 - f) + 1) (dif R s (fsE (fun c => !decide (dif R s c = s) && exB R j (c + 1) (dif R s c)) f (60 - f))) (i - 1)
theorem exB_D {R : Nat → Int32} : ∀ (j f s : Nat), f ≤ 60 → exB R j f s = true → Dm R s ≤ j
  | 0, f, s, _, h => by
    have : s = 0 := of_decide_eq_true h
    rw [this, Dm_0]
    omega
  | j + 1, f, s, hf, h => by
    unfold exB at h
    rw [Bool.and_eq_true] at h
    have h2 := of_decide_eq_true h.2
    have hx := fsE_x (p := fun c => !decide (dif R s c = s) && exB R j (c + 1) (dif R s c)) (60 - f) f
    obtain ⟨c, ec⟩ : ∃ c, c = fsE (fun c => !decide (dif R s c = s) && exB R j (c + 1) (dif R s c)) f (60 - f) := ⟨_, rfl⟩
    rw [← ec] at h2 hx
    have h3 := hx.2.2 (by omega)
    rw [Bool.and_eq_true] at h3
    have h4 := exB_D j (c + 1) (dif R s c) (by omega) h3.2
    have h5 := Dm_le (R := R) (s := s) (c := c) h2
    omega
/-- no place before f would help -/
def INg (R : Nat → Int32) (s f : Nat) : Prop := ∀ c, c < f → c < 60 → dif R s c = s ∨ Dm R s ≤ Dm R (dif R s c)
theorem INg_s {R : Nat → Int32} {s c : Nat} (h10 : s < 1024) (hc : c < 60) (h : INg R s c) (hd : Dm R (dif R s c) < Dm R s) : INg R (dif R s c) (c + 1) := by
  intro c' h1 h2
  by_cases e : c' = c
  · rw [e]; exact Or.inl (dif_ii h10)
  · rcases h c' (by omega) h2 with h3 | h3
    · exact Or.inl (dif_up h10 h3)
    · right
      have h4 := Dm_le (R := R) (s := dif R s c') (c := c) hc
      rw [dif_cm h10] at h4
      omega
theorem exB_y {R : Nat → Int32} : ∀ (j f s : Nat), s < 1024 → f ≤ 60 → INg R s f → Dm R s = j → j < 1000 → exB R j f s = true
  | 0, f, s, _, _, _, hD, _ => by
    unfold exB
    refine decide_eq_true ?_
    by_cases hs : s = 0
    · exact hs
    · have := (Dm_b (R := R) s s (Nat.le_refl _)).2.2 hs
      omega
  | j + 1, f, s, h10, hf, hI', hD, hj => by
    have hs : s ≠ 0 := fun z => by rw [z, Dm_0] at hD; omega
    have hx := fsE_x (p := fun c => !decide (dif R s c = s) && exB R j (c + 1) (dif R s c)) (60 - f) f
    unfold exB
    rw [decide_eq_false hs, Bool.not_false, Bool.true_and]
    refine decide_eq_true ?_
    have key : ∀ (q c : Nat), c + q = 60 → f ≤ c → INg R s c → ∃ j', (c ≤ j' ∧ j' < 60) ∧ (!decide (dif R s j' = s) && exB R j (j' + 1) (dif R s j')) = true := by
      intro q
      induction q with
      | zero =>
        intro c hc _ hIc
        obtain ⟨c', ⟨c1, c2⟩, c3⟩ := Dm_x (R := R) hs (by omega)
        rcases hIc c' (by omega) c1 with h | h
        · exact absurd h c2
        · omega
      | succ q ih =>
        intro c hc hfc hIc
        by_cases hh : dif R s c ≠ s ∧ Dm R (dif R s c) < Dm R s
        · have h1 := INg_s h10 (by omega) hIc hh.2
          have h2 := Dm_le (R := R) (s := s) (c := c) (by omega)
          have h3 := exB_y j (c + 1) (dif R s c) (dif_lt h10) (by omega) h1 (by omega) (by omega)
          exact ⟨c, by omega, by rw [decide_eq_false hh.1, h3]; rfl⟩
        · obtain ⟨j', j1, j2⟩ := ih (c + 1) (by omega) (by omega) (fun c' z1 z2 => by
            by_cases e : c' = c
            · rw [e]
              by_cases e2 : dif R s c = s
              · exact Or.inl e2
              · right
                by_cases e3 : Dm R s ≤ Dm R (dif R s c)
                · exact e3
                · exact (hh ⟨e2, by omega⟩).elim
            · exact hIc c' (by omega) z2)
          exact ⟨j', by omega, j2⟩
    obtain ⟨j', j1, j2⟩ := key (60 - f) f (by omega) (Nat.le_refl _) hI'
    have := hx.1.mpr ⟨j', by omega, j2⟩
    omega
def plc (R : Nat → Int32) (k : Nat) : Nat → Nat → Nat → Nat → Int
  | 0, _, _, _ => -1
  | q + 1, c, fo, s => if dif R s c ≠ s ∧ Dm R (dif R s c) < Dm R s then (if fo = k then (c : Int) else plc R k q (c + 1) (fo + 1) (dif R s c)) else plc R k q (c + 1) fo s
theorem plc_r {R : Nat → Int32} {k : Nat} : ∀ (q c fo s j i : Nat), s < 1024 → c + q = 60 → INg R s c → Dm R s = j → j < 1000 → i < j → k = fo + i → plc R k q c fo s = (rwE R j c s i : Nat)
  | 0, c, fo, s, j, i, h10, hc, hI', hD, hj, hi, hk => by
    have hs : s ≠ 0 := fun z => by rw [z, Dm_0] at hD; omega
    obtain ⟨c', ⟨c1, c2⟩, c3⟩ := Dm_x (R := R) hs (by omega)
    rcases hI' c' (by omega) c1 with h | h
    · exact absurd h c2
    · omega
  | q + 1, c, fo, s, 0, i, h10, hc, hI', hD, hj, hi, hk => by omega
  | q + 1, c, fo, s, j + 1, i, h10, hc, hI', hD, hj, hi, hk => by
    have ep : plc R k (q + 1) c fo s = if dif R s c ≠ s ∧ Dm R (dif R s c) < Dm R s then (if fo = k then (c : Int) else plc R k q (c + 1) (fo + 1) (dif R s c)) else plc R k q (c + 1) fo s := rfl
    obtain ⟨p, hp⟩ : ∃ p : Nat → Bool, p = fun c => !decide (dif R s c = s) && exB R j (c + 1) (dif R s c) := ⟨_, rfl⟩
    have er : ∀ c, rwE R (j + 1) c s i = if i = 0 then fsE p c (60 - c) else rwE R j (fsE p c (60 - c) + 1) (dif R s (fsE p c (60 - c))) (i - 1) := fun c => by rw [hp]; rfl
    have ef : fsE p c (60 - c) = if p c = true then c else fsE p (c + 1) (60 - (c + 1)) := by
      rw [show 60 - c = (60 - (c + 1)) + 1 by omega]
      rfl
    have h2 := Dm_le (R := R) (s := s) (c := c) (by omega)
    rw [ep]
    by_cases hh : dif R s c ≠ s ∧ Dm R (dif R s c) < Dm R s
    · have h1 := INg_s h10 (by omega) hI' hh.2
      have h3 := exB_y j (c + 1) (dif R s c) (dif_lt h10) (by omega) h1 (by omega) (by omega)
      have pc : p c = true := by rw [hp]; dsimp only; rw [decide_eq_false hh.1, h3]; rfl
      rw [if_pos hh, er c, ef, if_pos pc]
      by_cases hi0 : i = 0
      · rw [if_pos hi0, if_pos (by omega)]
      · rw [if_neg hi0, if_neg (by omega)]
        exact plc_r q (c + 1) (fo + 1) (dif R s c) j (i - 1) (dif_lt h10) (by omega) h1 (by omega) (by omega) (by omega) (by omega)
    · have pc : p c = false := by
        rw [hp]
        dsimp only
        by_cases e2 : dif R s c = s
        · rw [decide_eq_true e2]; rfl
        · cases e3 : exB R j (c + 1) (dif R s c) with
          | false => rw [Bool.and_false]
          | true =>
            have := exB_D j (c + 1) (dif R s c) (by omega) e3
            exact (hh ⟨e2, by omega⟩).elim
      have ef2 : fsE p c (60 - c) = fsE p (c + 1) (60 - (c + 1)) := by rw [ef, pc]; rfl
      rw [if_neg hh, er c, ef2, ← er (c + 1)]
      refine plc_r q (c + 1) fo s (j + 1) i h10 (by omega) (fun c' z1 z2 => ?_) hD hj hi hk
      by_cases e : c' = c
      · rw [e]
        by_cases e2 : dif R s c = s
        · exact Or.inl e2
        · right
          by_cases e3 : Dm R s ≤ Dm R (dif R s c)
          · exact e3
          · exact (hh ⟨e2, by omega⟩).elim
      · exact hI' c' (by omega) z2
