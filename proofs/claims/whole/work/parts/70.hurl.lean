/-! A THROW WHOLE: purely; the class -/
def th1 (m : Int → Int) (p : Int) : Int → Int := if pe m p 1 % 3 = 0 then setm m 10 (w (m 10 + m 6)).toInt else m
def th2 (m : Int → Int) (p : Int) : Int → Int := setm (th1 m p) 15 (nsd (th1 m p))
def th3 (m : Int → Int) (p : Int) : Int → Int := setm (th2 m p) 15 (nsd (th2 m p))
def thX (m : Int → Int) (p X sp : Int) : Int := X - sp + dv (th1 m p) (2 * sp + 1)
def thY (m : Int → Int) (p Y sp : Int) : Int := Y - sp + dv (th2 m p) (2 * sp + 1)
def thC (m : Int → Int) (p h X Y sp st : Int) : Int := fal m h (thX m p X sp) (thY m p Y sp) st
def thL (m : Int → Int) (p h X Y sp st : Int) : Int → Int := layF (th3 m p) h (thX m p X sp) (rsY m h (thX m p X sp) (thY m p Y sp) st) (decide (thC m p h X Y sp st = -2))
def th4 (m : Int → Int) (p h X Y sp st : Int) : Int → Int := if 0 ≤ thC m p h X Y sp st then setm (setm (th3 m p) 11 (w (th3 m p 11 + bl m (thC m p h X Y sp st) 3)).toInt) (94 + 3 * p + 2) (pe m p 2 + 1) else knkM (thL m p h X Y sp st) st
def thK (m : Int → Int) (p h X Y sp st : Int) : Int := if 0 ≤ thC m p h X Y sp st then -1 else knkV (thL m p h X Y sp st) st
def th5 (m : Int → Int) (p h X Y sp st : Int) : Int → Int := logF (th4 m p h X Y sp st) p h (thX m p X sp) (thY m p Y sp) (thC m p h X Y sp st) (thK m p h X Y sp st)
def thM (m : Int → Int) (p h X Y sp st : Int) : Int → Int := setm (setm (th5 m p h X Y sp st) (94 + 3 * p + 1) (pe m p 1 + 1)) (94 + 3 * p) (min 99 (pe m p 0 + 1))
/-- the cells that a throw's parts keep -/
def kp (m m' : Int → Int) : Prop := ∀ z, z < 10 ∨ z = 12 ∨ (16 ≤ z ∧ z < 112) → m' z = m z
theorem kp_rf {m : Int → Int} : kp m m := fun _ _ => rfl
theorem kp_tr {m m' m'' : Int → Int} (h : kp m m') (h2 : kp m' m'') : kp m m'' := fun z hz => (h2 z hz).trans (h z hz)
theorem kp_geq {m m' : Int → Int} (h : kp m m') : geq m m' := fun z hz => h z (by omega)
theorem kp_setm {m : Int → Int} {z v : Int} (hz : z = 10 ∨ z = 11 ∨ (13 ≤ z ∧ z ≤ 15) ∨ 112 ≤ z) : kp m (setm m z v) := fun y hy => setm_o m (by omega)
theorem kp_take {m : Int → Int} {k : Int} : kp m (takeL m k) := fun y hy => by unfold takeL; rw [if_neg (by omega), if_neg (by omega)]
theorem kp_drop {m : Int → Int} : kp m (dropT m) := fun y hy => by unfold dropT; rw [if_neg (by omega), if_neg (by omega)]
theorem kp_open {m : Int → Int} : kp m (openT m) := fun y hy => by unfold openT; rw [if_neg (by omega), if_neg (by omega)]
theorem kp_lay {m : Int → Int} {h x y : Int} {a : Bool} (h13 : 0 ≤ m 13) : kp m (layF m h x y a) := by
  unfold layF
  try dsimp only
  split
  · rename_i c
    have t : takeL m 0 13 = m 13 - 1 := if_pos rfl
    exact kp_tr kp_take (kp_tr (kp_setm (by omega)) (kp_tr (kp_setm (by omega)) (kp_tr (kp_setm (by omega)) (kp_tr (kp_setm (by omega)) (kp_setm (by omega))))))
  · exact kp_tr (kp_setm (by omega)) (kp_tr (kp_setm (by omega)) (kp_tr (kp_setm (by omega)) (kp_tr (kp_setm (by omega)) (kp_setm (by omega)))))
theorem kp_psh {m : Int → Int} {k dx dy st : Int} (hk : 0 ≤ k) : kp m (pshM m k dx dy st) := by
  unfold pshM
  try dsimp only
  split
  · exact kp_tr (kp_setm (by omega)) (kp_tr (kp_setm (by omega)) (kp_setm (by omega)))
  · split
    · exact kp_tr kp_take (kp_setm (by omega))
    · exact kp_take
theorem knkK_r (m : Int → Int) : knkK m = -1 ∨ (0 ≤ knkK m ∧ knkK m < m 13 - 1) := by
  rcases fnd_r (knW m (ly m (m 13 - 1) 1) (ly m (m 13 - 1) 2)) (m 13 - 1).toNat 0 with h | ⟨h1, h2, -⟩
  · exact Or.inl h
  · exact Or.inr ⟨h1, by unfold knkK; omega⟩
theorem kp_knk {m : Int → Int} {st : Int} : kp m (knkM m st) := by
  unfold knkM
  split
  · exact kp_rf
  · split
    · exact kp_rf
    · rename_i c
      rcases knkK_r m with h | h
      · exact (c h).elim
      · exact kp_psh h.1
theorem kp_log {m : Int → Int} {p h x y c k : Int} : kp m (logF m p h x y c k) := by
  unfold logF
  try dsimp only
  refine kp_tr (kp_tr ?_ kp_open) (kp_tr (kp_setm (by omega)) (kp_tr (kp_setm (by omega)) (kp_tr (kp_setm (by omega)) (kp_tr (kp_setm (by omega)) (kp_tr (kp_setm (by omega)) (kp_setm (by omega)))))))
  split
  · exact kp_drop
  · exact kp_rf
theorem kp_th1 {m : Int → Int} {p : Int} : kp m (th1 m p) := by
  unfold th1
  split
  · exact kp_setm (by omega)
  · exact kp_rf
theorem kp_th3 {m : Int → Int} {p : Int} : kp m (th3 m p) := kp_tr (kp_tr kp_th1 (kp_setm (by omega))) (kp_setm (by omega))
/-- a view with other counters is within bounds -/
theorem BD_kp {m m' : Int → Int} (g : kp m m') (hB : BD m) (h13 : 0 ≤ m' 13 ∧ m' 13 ≤ 30) (h14 : 0 ≤ m' 14 ∧ m' 14 ≤ 60) : BD m' := BD_c (kp_geq g) hB h13 h14 (fun p p1 p2 => by
  have h5 := hB.2.2.1
  have : pe m' p 0 = pe m p 0 := g _ (by omega)
  rw [this]
  exact hB.2.2.2.2.2.2.2.2.2.2.2 p p1 p2)
theorem PL_kp {M : Int} {m m' : Int → Int} (hP : PL M m) (h4 : m' 4 = m 4) (h13 : m' 13 = m 13) (hl : ∀ z, 112 ≤ z ∧ z < 232 → m' z = m z) (hb : m 13 ≤ 30) : PL M m' := fun k k1 k2 => by
  rw [h13] at k2
  have e : ∀ j, 0 ≤ j → j < 4 → ly m' k j = ly m k j := fun j j1 j2 => hl _ (by omega)
  rw [e 0 (by omega) (by omega), e 1 (by omega) (by omega), e 2 (by omega) (by omega), e 3 (by omega) (by omega), h4]
  exact hP k k1 k2
theorem PL_mono {M M' : Int} {m : Int → Int} (h : M ≤ M') (hP : PL M m) : PL M' m := fun k k1 k2 => by have := hP k k1 k2; omega
theorem PL_take {M : Int} {m : Int → Int} {k : Int} (hP : PL M m) (hk : 0 ≤ k) (hb : m 13 ≤ 30) : PL M (takeL m k) := fun j j1 j2 => by
  have t13 : takeL m k 13 = m 13 - 1 := if_pos rfl
  have t4 : takeL m k 4 = m 4 := kp_take 4 (by omega)
  rw [t13] at j2
  rw [t4]
  by_cases c : j < k
  · have e : ∀ i, 0 ≤ i → i < 4 → ly (takeL m k) j i = ly m j i := fun i i1 i2 => by unfold ly takeL; rw [if_neg (by omega), if_pos (by omega), if_pos (by omega), if_pos (by omega)]
    rw [e 0 (by omega) (by omega), e 1 (by omega) (by omega), e 2 (by omega) (by omega), e 3 (by omega) (by omega)]
    exact hP j j1 (by omega)
  · have e : ∀ i, 0 ≤ i → i < 4 → ly (takeL m k) j i = ly m (j + 1) i := fun i i1 i2 => by unfold ly takeL; rw [if_neg (by omega), if_pos (by omega), if_pos (by omega), if_neg (by omega), show 112 + 4 * j + i + 4 = 112 + 4 * (j + 1) + i by omega]
    rw [e 0 (by omega) (by omega), e 1 (by omega) (by omega), e 2 (by omega) (by omega), e 3 (by omega) (by omega)]
    exact hP (j + 1) (by omega) (by omega)
theorem lay_13 {m : Int → Int} {h x y : Int} {a : Bool} (h13 : 0 ≤ m 13 ∧ m 13 ≤ 30) : layF m h x y a 13 = (if m 13 = 30 then 30 else m 13 + 1) ∧ ∀ z, 14 ≤ z ∧ z < 112 ∨ 232 ≤ z → layF m h x y a z = m z := by
  have t13 : takeL m 0 13 = m 13 - 1 := if_pos rfl
  unfold layF
  try dsimp only
  by_cases c : m 13 = 30
  · rw [if_pos c, if_pos c]
    refine ⟨by rw [setm_o _ (by omega), setm_o _ (by omega), setm_o _ (by omega), setm_o _ (by omega), setm_s]; omega, fun z hz => ?_⟩
    rw [setm_o _ (by omega), setm_o _ (by omega), setm_o _ (by omega), setm_o _ (by omega), setm_o _ (by omega)]
    unfold takeL
    rw [if_neg (by omega), if_neg (by omega)]
  · rw [if_neg c, if_neg c]
    refine ⟨by rw [setm_o _ (by omega), setm_o _ (by omega), setm_o _ (by omega), setm_o _ (by omega), setm_s], fun z hz => ?_⟩
    rw [setm_o _ (by omega), setm_o _ (by omega), setm_o _ (by omega), setm_o _ (by omega), setm_o _ (by omega)]
theorem PL_lay {M : Int} {m : Int → Int} {h x y : Int} {a : Bool} (hP : PL M m) (h13 : 0 ≤ m 13 ∧ m 13 ≤ 30) (hh : 0 ≤ h ∧ h < m 4) (hx : (-M ≤ x ∧ x ≤ M) ∧ -M ≤ y ∧ y ≤ M) : PL M (layF m h x y a) := by
  have t13 : takeL m 0 13 = m 13 - 1 := if_pos rfl
  have key : ∀ n : Int → Int, PL M n → (0 ≤ n 13 ∧ n 13 < 30) → n 4 = m 4 → PL M (setm (setm (setm (setm (setm n 13 (n 13 + 1)) (112 + 4 * n 13) h) (112 + 4 * n 13 + 1) x) (112 + 4 * n 13 + 2) y) (112 + 4 * n 13 + 3) (cond a 1 0)) := fun n hn nb n4 k k1 k2 => by
    rw [setm_o _ (by omega), setm_o _ (by omega), setm_o _ (by omega), setm_o _ (by omega), setm_s] at k2
    unfold ly
    rw [setm_o (y := 4) _ (by omega), setm_o (y := 4) _ (by omega), setm_o (y := 4) _ (by omega), setm_o (y := 4) _ (by omega), setm_o (y := 4) _ (by omega), n4]
    by_cases c : k = n 13
    · subst c
      have e0 : setm (setm (setm (setm (setm n 13 (n 13 + 1)) (112 + 4 * n 13) h) (112 + 4 * n 13 + 1) x) (112 + 4 * n 13 + 2) y) (112 + 4 * n 13 + 3) (cond a 1 0) (112 + 4 * n 13 + 0) = h := by rw [setm_o _ (by omega), setm_o _ (by omega), setm_o _ (by omega), Int.add_zero, setm_s]
      have e1 : setm (setm (setm (setm (setm n 13 (n 13 + 1)) (112 + 4 * n 13) h) (112 + 4 * n 13 + 1) x) (112 + 4 * n 13 + 2) y) (112 + 4 * n 13 + 3) (cond a 1 0) (112 + 4 * n 13 + 1) = x := by rw [setm_o _ (by omega), setm_o _ (by omega), setm_s]
      have e2 : setm (setm (setm (setm (setm n 13 (n 13 + 1)) (112 + 4 * n 13) h) (112 + 4 * n 13 + 1) x) (112 + 4 * n 13 + 2) y) (112 + 4 * n 13 + 3) (cond a 1 0) (112 + 4 * n 13 + 2) = y := by rw [setm_o _ (by omega), setm_s]
      rw [e0, e1, e2, setm_s]
      refine ⟨hh, hx.1, hx.2, ?_⟩
      cases a <;> simp only [cond_true, cond_false] <;> omega
    · have e : ∀ i, 0 ≤ i → i < 4 → setm (setm (setm (setm (setm n 13 (n 13 + 1)) (112 + 4 * n 13) h) (112 + 4 * n 13 + 1) x) (112 + 4 * n 13 + 2) y) (112 + 4 * n 13 + 3) (cond a 1 0) (112 + 4 * k + i) = n (112 + 4 * k + i) := fun i i1 i2 => by rw [setm_o _ (by omega), setm_o _ (by omega), setm_o _ (by omega), setm_o _ (by omega), setm_o _ (by omega)]
      rw [e 0 (by omega) (by omega), e 1 (by omega) (by omega), e 2 (by omega) (by omega), e 3 (by omega) (by omega)]
      have := hn k k1 (by omega)
      unfold ly at this
      rw [n4] at this
      exact this
  unfold layF
  try dsimp only
  split
  · exact key _ (PL_take hP (Int.le_refl 0) (by omega)) (by omega) (kp_take 4 (by omega))
  · exact key m hP (by omega) rfl
theorem knk_13 {m : Int → Int} {st : Int} (h1 : 1 ≤ m 13 ∧ m 13 ≤ 30) : (0 ≤ knkM m st 13 ∧ knkM m st 13 ≤ m 13) ∧ knkM m st 14 = m 14 ∧ ∀ z, 232 ≤ z → knkM m st z = m z := by
  unfold knkM
  split
  · exact ⟨by omega, rfl, fun _ _ => rfl⟩
  · split
    · exact ⟨by omega, rfl, fun _ _ => rfl⟩
    · rcases knkK_r m with h | h
      · rename_i c; exact (c h).elim
      · have t13 : takeL m (knkK m) 13 = m 13 - 1 := if_pos rfl
        have t14 : takeL m (knkK m) 14 = m 14 := by unfold takeL; rw [if_neg (by omega), if_neg (by omega)]
        have tz : ∀ z, 232 ≤ z → takeL m (knkK m) z = m z := fun z hz => by unfold takeL; rw [if_neg (by omega), if_neg (by omega)]
        unfold pshM
        try dsimp only
        split
        · exact ⟨by rw [setm_o _ (by omega), setm_o _ (by omega), setm_o _ (by omega)]; omega, by rw [setm_o _ (by omega), setm_o _ (by omega), setm_o _ (by omega)], fun z hz => by rw [setm_o _ (by omega), setm_o _ (by omega), setm_o _ (by omega)]⟩
        · split
          · exact ⟨by rw [setm_o _ (by omega)]; omega, by rw [setm_o _ (by omega)]; exact t14, fun z hz => by rw [setm_o _ (by omega)]; exact tz z hz⟩
          · exact ⟨by omega, t14, tz⟩
theorem PL_knk {M : Int} {m : Int → Int} {st : Int} (hP : PL M m) (h13 : 1 ≤ m 13 ∧ m 13 ≤ 30) : PL (M + 1) (knkM m st) := by
  unfold knkM
  split
  · exact PL_mono (by omega) hP
  · split
    · exact PL_mono (by omega) hP
    · rcases knkK_r m with h | h
      · rename_i c; exact (c h).elim
      · generalize hk : knkK m = k at h
        have hKk := hP k (by omega) (by omega)
        have hsg : ∀ z, -1 ≤ sgn z ∧ sgn z ≤ 1 := fun z => by unfold sgn; split; omega; split <;> omega
        have s1 := hsg (ly m k 1 - ly m (m 13 - 1) 1)
        have s2 := hsg (ly m k 2 - ly m (m 13 - 1) 2)
        generalize sgn (ly m k 1 - ly m (m 13 - 1) 1) = dx at s1 ⊢
        generalize sgn (ly m k 2 - ly m (m 13 - 1) 2) = dy at s2 ⊢
        unfold pshM
        try dsimp only
        split
        · intro j j1 j2
          rw [setm_o _ (by omega), setm_o _ (by omega), setm_o _ (by omega)] at j2
          have hj := hP j j1 j2
          unfold ly at hKk hj ⊢
          rw [setm_o (y := 4) _ (by omega), setm_o (y := 4) _ (by omega), setm_o (y := 4) _ (by omega)]
          by_cases c : j = k
          · subst c
            rw [setm_o (y := 112 + 4 * j + 0) _ (by omega), setm_o (y := 112 + 4 * j + 0) _ (by omega), setm_o (y := 112 + 4 * j + 0) _ (by omega), setm_o (y := 112 + 4 * j + 1) _ (by omega), setm_o (y := 112 + 4 * j + 1) _ (by omega), setm_s, setm_o (y := 112 + 4 * j + 2) _ (by omega), setm_s, setm_s]
            refine ⟨hj.1, by omega, by omega, ?_⟩
            generalize tsF m _ _ _ st false = e
            cases e <;> simp only [cond_true, cond_false] <;> omega
          · have e : ∀ i v1 v2 v3, 0 ≤ i → i < 4 → setm (setm (setm m (112 + 4 * k + 1) v1) (112 + 4 * k + 2) v2) (112 + 4 * k + 3) v3 (112 + 4 * j + i) = m (112 + 4 * j + i) := fun i v1 v2 v3 i1 i2 => by rw [setm_o _ (by omega), setm_o _ (by omega), setm_o _ (by omega)]
            rw [e 0 _ _ _ (by omega) (by omega), e 1 _ _ _ (by omega) (by omega), e 2 _ _ _ (by omega) (by omega), e 3 _ _ _ (by omega) (by omega)]
            omega
        · have ht := PL_take hP h.1 h13.2
          split
          · refine PL_mono (M := M) (by omega) ?_
            have t13 : takeL m k 13 = m 13 - 1 := if_pos rfl
            exact PL_kp ht (setm_o _ (by omega)) (setm_o _ (by omega)) (fun z hz => setm_o _ (by omega)) (by omega)
          · exact PL_mono (by omega) ht
theorem log_14 {m : Int → Int} {p h x y c k : Int} (h14 : 0 ≤ m 14 ∧ m 14 ≤ 60) : logF m p h x y c k 14 = (if m 14 = 60 then 60 else m 14 + 1) ∧ logF m p h x y c k 13 = m 13 ∧ (∀ z, 112 ≤ z ∧ z < 232 → logF m p h x y c k z = m z) := by
  unfold logF
  try dsimp only
  split
  · refine ⟨?_, ?_, fun z hz => ?_⟩
    · rw [setm_o _ (by omega), setm_o _ (by omega), setm_o _ (by omega), setm_o _ (by omega), setm_o _ (by omega), setm_o _ (by omega)]
      unfold openT dropT
      rw [if_pos rfl, if_pos rfl]
      omega
    · rw [setm_o _ (by omega), setm_o _ (by omega), setm_o _ (by omega), setm_o _ (by omega), setm_o _ (by omega), setm_o _ (by omega)]
      unfold openT dropT
      rw [if_neg (by omega), if_neg (by omega), if_neg (by omega), if_neg (by omega)]
    · rw [setm_o _ (by omega), setm_o _ (by omega), setm_o _ (by omega), setm_o _ (by omega), setm_o _ (by omega), setm_o _ (by omega)]
      unfold openT dropT
      rw [if_neg (by omega), if_neg (by omega), if_neg (by omega), if_neg (by omega)]
  · refine ⟨?_, ?_, fun z hz => ?_⟩
    · rw [setm_o _ (by omega), setm_o _ (by omega), setm_o _ (by omega), setm_o _ (by omega), setm_o _ (by omega), setm_o _ (by omega)]
      unfold openT
      rw [if_pos rfl]
    · rw [setm_o _ (by omega), setm_o _ (by omega), setm_o _ (by omega), setm_o _ (by omega), setm_o _ (by omega), setm_o _ (by omega)]
      unfold openT
      rw [if_neg (by omega), if_neg (by omega)]
    · rw [setm_o _ (by omega), setm_o _ (by omega), setm_o _ (by omega), setm_o _ (by omega), setm_o _ (by omega), setm_o _ (by omega)]
      unfold openT
      rw [if_neg (by omega), if_neg (by omega)]
