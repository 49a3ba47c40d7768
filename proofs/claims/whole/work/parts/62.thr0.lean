/-! A THROW, purely, on the reference's cells -/
/-- the same blocks, hoops and bounce -/
def geq (m m' : Int → Int) : Prop := ∀ z, (3 ≤ z ∧ z ≤ 9) ∨ (20 ≤ z ∧ z < 94) → m' z = m z
theorem geq_rf {m : Int → Int} : geq m m := fun _ _ => rfl
theorem geq_tr {m m' m'' : Int → Int} (h : geq m m') (h2 : geq m' m'') : geq m m'' := fun z hz => (h2 z hz).trans (h z hz)
theorem geq_setm {m : Int → Int} {z v : Int} (hz : ¬((3 ≤ z ∧ z ≤ 9) ∨ (20 ≤ z ∧ z < 94))) : geq m (setm m z v) := fun y hy => setm_o m (fun q => hz (q ▸ hy))
theorem geq_take {m : Int → Int} {k : Int} : geq m (takeL m k) := fun y hy => by unfold takeL; rw [if_neg (by omega), if_neg (by omega)]
theorem geq_drop {m : Int → Int} : geq m (dropT m) := fun y hy => by unfold dropT; rw [if_neg (by omega), if_neg (by omega)]
theorem geq_open {m : Int → Int} : geq m (openT m) := fun y hy => by unfold openT; rw [if_neg (by omega), if_neg (by omega)]
theorem bl_c {m m' : Int → Int} (h : geq m m') {b j : Int} (hb : 0 ≤ b ∧ b < 10) (hj : 0 ≤ j ∧ j < 5) : bl m' b j = bl m b j := h _ (by omega)
theorem ho_c {m m' : Int → Int} (h : geq m m') {b j : Int} (hb : 0 ≤ b ∧ b < 8) (hj : 0 ≤ j ∧ j < 3) : ho m' b j = ho m b j := h _ (by omega)
theorem al_c {m m' : Int → Int} (g : geq m m') {h b : Int} (hh : 0 ≤ h ∧ h < 8) : alX m' h b = alX m h b ∧ alY m' h b = alY m h b := by
  unfold alX alY
  rw [ho_c g hh (by omega), ho_c g hh (by omega)]
  exact ⟨rfl, rfl⟩
theorem ovF_c {m m' : Int → Int} (g : geq m m') (hB : BD m) {h x y b : Int} (hh : 0 ≤ h ∧ h < m 4) : ovF m' h x y b = ovF m h x y b := by
  have h3 := hB.1
  have h4 := hB.2.1
  unfold ovF
  rw [(al_c g (by omega)).1, (al_c g (by omega)).2, g 3 (by omega)]
  refine fnd_c _ _ fun j h1 h2 => ?_
  unfold ovW
  rw [bl_c g (by omega) (by omega), bl_c g (by omega) (by omega), bl_c g (by omega) (by omega)]
theorem tsF_c {m m' : Int → Int} (g : geq m m') (hB : BD m) {h x y b : Int} {e : Bool} (hh : 0 ≤ h ∧ h < m 4) : tsF m' h x y b e = tsF m h x y b e := by
  have h3 := hB.1
  have h4 := hB.2.1
  unfold tsF
  rw [(al_c g (by omega)).1, (al_c g (by omega)).2, g 3 (by omega)]
  refine exs_c _ _ fun j h1 h2 => ?_
  unfold tsW tcW
  rw [bl_c g (by omega) (by omega), bl_c g (by omega) (by omega), bl_c g (by omega) (by omega), bl_c g (by omega) (by omega)]
theorem rsY_c {m m' : Int → Int} (g : geq m m') (hB : BD m) {h x y b : Int} (hh : 0 ≤ h ∧ h < m 4) : rsY m' h x y b = rsY m h x y b := by
  unfold rsY
  rw [ovF_c g hB hh, tsF_c g hB hh, g 7 (by omega)]
theorem fal_c {m m' : Int → Int} (g : geq m m') (hB : BD m) {h x y b : Int} (hh : 0 ≤ h ∧ h < m 4) : fal m' h x y b = fal m h x y b := by
  unfold fal cnF
  rw [rsY_c g hB hh, ovF_c g hB hh, ovF_c g hB hh, tsF_c g hB hh, tsF_c g hB hh, g 7 (by omega)]
theorem BD_c {m m' : Int → Int} (g : geq m m') (hB : BD m) (h13 : 0 ≤ m' 13 ∧ m' 13 ≤ 30) (h14 : 0 ≤ m' 14 ∧ m' 14 ≤ 60) (hp : ∀ p, 0 ≤ p → p < m 5 → 0 ≤ pe m' p 0 ∧ pe m' p 0 ≤ 99) : BD m' := by
  obtain ⟨b3, b4, b5, b6, b7, b8, b9, b13, b14, hbk, hhp, hpp⟩ := hB
  have e3 := g 3 (by omega)
  have e4 := g 4 (by omega)
  have e5 := g 5 (by omega)
  refine ⟨by rw [e3]; exact b3, by rw [e4]; exact b4, by rw [e5]; exact b5, by rw [g 6 (by omega)]; exact b6, by rw [g 7 (by omega)]; exact b7, by rw [g 8 (by omega)]; exact b8, by rw [g 9 (by omega)]; exact b9, h13, h14, fun b q1 q2 => ?_, fun h q1 q2 => ?_, fun p q1 q2 => hp p q1 (by rw [e5] at q2; exact q2)⟩
  · rw [e3] at q2
    rw [bl_c g (by omega) (by omega), bl_c g (by omega) (by omega), bl_c g (by omega) (by omega), bl_c g (by omega) (by omega), bl_c g (by omega) (by omega)]
    exact hbk b q1 q2
  · rw [e4] at q2
    rw [ho_c g (by omega) (by omega), ho_c g (by omega) (by omega), ho_c g (by omega) (by omega)]
    exact hhp h q1 q2
/-- where hoops lie, and what is logged, within bounds -/
def PL (M : Int) (m : Int → Int) : Prop := ∀ k, 0 ≤ k → k < m 13 → (0 ≤ ly m k 0 ∧ ly m k 0 < m 4) ∧ (-M ≤ ly m k 1 ∧ ly m k 1 ≤ M) ∧ (-M ≤ ly m k 2 ∧ ly m k 2 ≤ M) ∧ 0 ≤ ly m k 3 ∧ ly m k 3 ≤ 1
def PLg (m : Int → Int) : Prop := ∀ k, 0 ≤ k → k < m 14 → (0 ≤ lg m k 0 ∧ lg m k 0 < m 5) ∧ (0 ≤ lg m k 1 ∧ lg m k 1 < m 4) ∧ (-2000 ≤ lg m k 2 ∧ lg m k 2 ≤ 2000) ∧ (-2000 ≤ lg m k 3 ∧ lg m k 3 ≤ 2000) ∧ (-2 ≤ lg m k 4 ∧ lg m k 4 < m 3) ∧ -1 ≤ lg m k 5 ∧ lg m k 5 < m 3
/-- the pieces of a throw -/
def dz (s : Int32) : Int32 := ((s.toUInt32 >>> ((w 16).toUInt32 &&& Int32.toUInt32 (w 31))).toInt32) &&& w 32767
def nsd (m : Int → Int) : Int := (w (1103515245 * m 15 + 12345)).toInt
def dv (m : Int → Int) (by' : Int) : Int := (dz (w (nsd m))).toInt % by'
theorem dz_r (s : Int32) : 0 ≤ (dz s).toInt ∧ (dz s).toInt ≤ 32767 := by
  unfold dz
  rw [pk_and _ 15 (by decide), show ∀ n : Nat, nI n = w n from fun n => w_nat n, w_toInt (by omega)]
  omega
def layF (m : Int → Int) (h x y : Int) (a : Bool) : Int → Int :=
  let n := if m 13 = 30 then takeL m 0 else m
  setm (setm (setm (setm (setm n 13 (n 13 + 1)) (112 + 4 * n 13) h) (112 + 4 * n 13 + 1) x) (112 + 4 * n 13 + 2) y) (112 + 4 * n 13 + 3) (cond a 1 0)
def sgn (z : Int) : Int := if z < 0 then -1 else if 0 < z then 1 else 0
def knW (m : Int → Int) (x y k : Int) : Bool := decide (ly m k 3 = 1) && (decide (((ly m k 1 - x).natAbs : Int) ≤ m 8) && decide (((ly m k 2 - y).natAbs : Int) ≤ m 8))
/-- the k-th is pushed -/
def pshM (m : Int → Int) (k dx dy st : Int) : Int → Int :=
  let h := ly m k 0
  let x := ly m k 1 + dx
  let y := ly m k 2 + dy
  if ovF m h x y st = -1 then setm (setm (setm m (112 + 4 * k + 1) x) (112 + 4 * k + 2) y) (112 + 4 * k + 3) (cond (tsF m h x y st false) 1 0)
  else if m 9 = 1 then setm (takeL m k) 11 (w (m 11 + bl m (ovF m h x y st) 3)).toInt else takeL m k
def pshV (m : Int → Int) (k dx dy st : Int) : Int := if m 9 = 1 then ovF m (ly m k 0) (ly m k 1 + dx) (ly m k 2 + dy) st else -1
/-- the one that lies last knocks -/
def knkK (m : Int → Int) : Int := fnd (knW m (ly m (m 13 - 1) 1) (ly m (m 13 - 1) 2)) 0 (m 13 - 1).toNat
def knkM (m : Int → Int) (st : Int) : Int → Int := if m 8 ≤ 0 then m else if knkK m = -1 then m else pshM m (knkK m) (sgn (ly m (knkK m) 1 - ly m (m 13 - 1) 1)) (sgn (ly m (knkK m) 2 - ly m (m 13 - 1) 2)) st
def knkV (m : Int → Int) (st : Int) : Int := if m 8 ≤ 0 then -1 else if knkK m = -1 then -1 else pshV m (knkK m) (sgn (ly m (knkK m) 1 - ly m (m 13 - 1) 1)) (sgn (ly m (knkK m) 2 - ly m (m 13 - 1) 2)) st
def logF (m : Int → Int) (p h x y c k : Int) : Int → Int :=
  let n := openT (if m 14 = 60 then dropT m else m)
  setm (setm (setm (setm (setm (setm n 232 p) 233 h) 234 x) 235 y) 236 c) 237 k
