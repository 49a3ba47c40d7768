/-! THE PURE SIDE: an int as w of an Int; rules that turn an equation into plain arithmetic -/
def w (z : Int) : Int32 := Int32.ofInt z
def ix (z : Int) : Nat := z.toNat
def bv (b : Bool) : Int32 := cond b 1 0
theorem w_add (a b : Int) : w a + w b = w (a + b) := (Int32.ofInt_add a b).symm
theorem w_sub (a b : Int) : w a - w b = w (a - b) := (Int32.ofInt_sub a b).symm
theorem w_mul (a b : Int) : w a * w b = w (a * b) := (Int32.ofInt_mul a b).symm
theorem w_neg (a : Int) : -w a = w (-a) := (Int32.ofInt_neg a).symm
theorem w_toInt {a : Int} (h : -2147483648 ≤ a ∧ a < 2147483648) : (w a).toInt = a := Int32.toInt_ofInt_of_le (by omega) (by omega)
theorem w_of (x : Int32) : w x.toInt = x := Int32.ofInt_toInt x
theorem i_rng (x : Int32) : -2147483648 ≤ x.toInt ∧ x.toInt < 2147483648 := ⟨by have := x.le_toInt; omega, by have := x.toInt_lt; omega⟩
theorem w_lt {a b : Int} (h : (-2147483648 ≤ a ∧ a < 2147483648) ∧ -2147483648 ≤ b ∧ b < 2147483648) : (w a < w b) = (a < b) := by
  rw [Int32.lt_iff_toInt_lt, w_toInt h.1, w_toInt h.2]
theorem w_le {a b : Int} (h : (-2147483648 ≤ a ∧ a < 2147483648) ∧ -2147483648 ≤ b ∧ b < 2147483648) : (w a ≤ w b) = (a ≤ b) := by
  rw [Int32.le_iff_toInt_le, w_toInt h.1, w_toInt h.2]
theorem w_eq {a b : Int} (h : (-2147483648 ≤ a ∧ a < 2147483648) ∧ -2147483648 ≤ b ∧ b < 2147483648) : (w a = w b) = (a = b) := by
  rw [← Int32.toInt_inj, w_toInt h.1, w_toInt h.2]
theorem w_cl {a : Int} (h : 0 ≤ a ∧ a < 2147483648) : (w a).toNatClampNeg = ix a := by
  rw [← Int32.toNat_toInt, w_toInt (by omega)]; rfl
theorem w_in {a : Int} {n : Nat} (h : -2147483648 ≤ a ∧ a < 2147483648) : inb (w a) n = (decide (0 ≤ a) && decide (a < n)) := by
  unfold inb
  have e0 : (0 : Int32) = w 0 := rfl
  have e1 : ((0 : Int32) ≤ w a) = (0 ≤ a) := by rw [e0, w_le ⟨by omega, h⟩]
  by_cases h0 : 0 ≤ a
  · rw [w_cl (by omega), decide_eq_decide.mpr (iff_of_eq e1)]
    congr 1
    unfold ix
    exact decide_eq_decide.mpr (by omega)
  · rw [decide_eq_decide.mpr (iff_of_eq e1), decide_eq_false h0]
    rfl
theorem w_nat (n : Nat) : Int32.ofNat n = w n := (Int32.ofInt_eq_ofNat (n := n)).symm
theorem w_max {a b : Int} (h : (-2147483648 ≤ a ∧ a < 2147483648) ∧ -2147483648 ≤ b ∧ b < 2147483648) : (if w a < w b then w b else w a) = w (max a b) := by
  by_cases q : a < b
  · rw [if_pos ((iff_of_eq (w_lt h)).mpr q), Int.max_eq_right (by omega)]
  · rw [if_neg (fun x => q ((iff_of_eq (w_lt h)).mp x)), Int.max_eq_left (by omega)]
theorem w_min {a b : Int} (h : (-2147483648 ≤ a ∧ a < 2147483648) ∧ -2147483648 ≤ b ∧ b < 2147483648) : (if w b < w a then w b else w a) = w (min a b) := by
  by_cases q : b < a
  · rw [if_pos ((iff_of_eq (w_lt ⟨h.2, h.1⟩)).mpr q), Int.min_eq_right (by omega)]
  · rw [if_neg (fun x => q ((iff_of_eq (w_lt ⟨h.2, h.1⟩)).mp x)), Int.min_eq_left (by omega)]
theorem w_abs {a : Int} (h : -2147483648 < a ∧ a < 2147483648) : (if w 0 ≤ w a then w a else w 0 - w a) = w (a.natAbs : Int) := by
  by_cases q : 0 ≤ a
  · rw [if_pos ((iff_of_eq (w_le (by omega))).mpr q), Int.natAbs_of_nonneg q]
  · rw [if_neg (fun x => q ((iff_of_eq (w_le (by omega))).mp x)), w_sub]
    congr 1
    omega
theorem w_div {a b : Int} (h : (-2147483648 < a ∧ a < 2147483648) ∧ -2147483648 ≤ b ∧ b < 2147483648) : w a / w b = w (a.tdiv b) := by
  refine Int32.toInt_inj.mp ?_
  rw [Int32.toInt_div_of_ne_left _ _ (fun q => ?_), w_toInt (by omega), w_toInt h.2]
  · refine (w_toInt ?_).symm
    have h1 := Int.natAbs_tdiv_le_natAbs a b
    omega
  · have := congrArg Int32.toInt q
    rw [w_toInt (by omega), Int32.toInt_minValue] at this
    omega
theorem bv_01 (b : Bool) : (bv b = 0 ∨ bv b = 1) = True := by cases b <;> simp [bv]
theorem bv_0 (b : Bool) : (bv b = w 0) = (b = false) := by cases b <;> simp [bv, w] <;> decide
theorem bv_1 (b : Bool) : (bv b = w 1) = (b = true) := by cases b <;> simp [bv, w] <;> decide
theorem bv_w (b : Bool) : bv b = w (if b = true then 1 else 0) := by cases b <;> rfl
theorem bv_t : bv true = w 1 := rfl
theorem bv_f : bv false = w 0 := rfl
theorem cnd_d {α : Type} {p : Prop} [Decidable p] (a b : α) : cond (decide p) a b = if p then a else b := by
  by_cases h : p <;> simp [h]
theorem cnd_n {α : Type} {p : Prop} [Decidable p] (a b : α) : cond (!decide p) a b = if p then b else a := by
  by_cases h : p <;> simp [h]
theorem cnd_a {x y : Bool} (a : Option Res) : cond (x && y) a none = cond x (cond y a none) none := by cases x <;> rfl
theorem cnd_o {p q : Prop} [Decidable p] [Decidable q] (a b : Option Res) : cond (decide p || decide q) a b = if p ∨ q then a else b := by
  by_cases h : p <;> by_cases h2 : q <;> simp [h, h2]
theorem b0_n (σ : HS) (f : HS → Option Res) (h : Nat → HS → Option Res) : bnd0 (some (.inl none, σ)) f h = f σ := rfl
theorem b1_i (x : Int32) (σ : HS) (f : Int32 → HS → Option Res) (h : Nat → HS → Option Res) : bnd1 (some (.inl (some (.int x)), σ)) f h = f x σ := rfl
theorem b2_r (x : Nat) (σ : HS) (f : Nat → HS → Option Res) (h : Nat → HS → Option Res) : bnd2 (some (.inl (some (.ref x)), σ)) f h = f x σ := rfl
theorem b0_e (E : Nat) (σ : HS) (f : HS → Option Res) (h : Nat → HS → Option Res) : bnd0 (some (.inr E, σ)) f h = h E σ := rfl
theorem b1_e (E : Nat) (σ : HS) (f : Int32 → HS → Option Res) (h : Nat → HS → Option Res) : bnd1 (some (.inr E, σ)) f h = h E σ := rfl
theorem iltT {a b : Int} (h : a < b) : (a < b) = True := eq_true h
theorem iltF {a b : Int} (h : b ≤ a) : (a < b) = False := eq_false (by omega)
theorem ileT {a b : Int} (h : a ≤ b) : (a ≤ b) = True := eq_true h
theorem ileF {a b : Int} (h : b < a) : (a ≤ b) = False := eq_false (by omega)
theorem ieqT {a b : Int} (h : a = b) : (a = b) = True := eq_true h
theorem ieqF {a b : Int} (h : a < b ∨ b < a) : (a = b) = False := eq_false (by omega)
theorem u2_s {α : Type} (f : Nat → Nat → α) (o k : Nat) (v : α) : u2 f o k v o k = v := by simp [u2]
theorem u2_o {α : Type} (f : Nat → Nat → α) {o a : Nat} (k b : Nat) (v : α) (h : a ≠ o) : u2 f o k v a b = f a b := by simp [u2, h]
theorem u2_k {α : Type} (f : Nat → Nat → α) (o a : Nat) {k b : Nat} (v : α) (h : b ≠ k) : u2 f o k v a b = f a b := by simp [u2, h]
theorem ix_inj {a b : Int} (ha : 0 ≤ a) (hb : 0 ≤ b) : (ix a = ix b) = (a = b) := propext (by unfold ix; omega)
theorem ix_nat (n : Nat) : ix n = n := rfl
/-! binds whose rest is not looked into before what is bound stands -/
def tk0 (_ : HS → Option Res) (_ : Nat → HS → Option Res) : Type := Unit
def tk1 (_ : Int32 → HS → Option Res) (_ : Nat → HS → Option Res) : Type := Unit
def tk2 (_ : Nat → HS → Option Res) (_ : Nat → HS → Option Res) : Type := Unit
def tu0 {f : HS → Option Res} {h : Nat → HS → Option Res} : tk0 f h := ()
def tu1 {f : Int32 → HS → Option Res} {h : Nat → HS → Option Res} : tk1 f h := ()
def tu2 {f : Nat → HS → Option Res} {h : Nat → HS → Option Res} : tk2 f h := ()
def bd0 (r : Option Res) (f : HS → Option Res) (h : Nat → HS → Option Res) (_ : tk0 f h) : Option Res := bnd0 r f h
def bd1 (r : Option Res) (f : Int32 → HS → Option Res) (h : Nat → HS → Option Res) (_ : tk1 f h) : Option Res := bnd1 r f h
def bd2 (r : Option Res) (f : Nat → HS → Option Res) (h : Nat → HS → Option Res) (_ : tk2 f h) : Option Res := bnd2 r f h
theorem z0 (r : Option Res) (f : HS → Option Res) (h : Nat → HS → Option Res) : bnd0 r f h = bd0 r f h tu0 := rfl
theorem z1 (r : Option Res) (f : Int32 → HS → Option Res) (h : Nat → HS → Option Res) : bnd1 r f h = bd1 r f h tu1 := rfl
theorem z2 (r : Option Res) (f : Nat → HS → Option Res) (h : Nat → HS → Option Res) : bnd2 r f h = bd2 r f h tu2 := rfl
theorem y0n (σ : HS) (f : HS → Option Res) (h : Nat → HS → Option Res) (t : tk0 f h) : bd0 (some (.inl none, σ)) f h t = f σ := rfl
theorem y1i (x : Int32) (σ : HS) (f : Int32 → HS → Option Res) (h : Nat → HS → Option Res) (t : tk1 f h) : bd1 (some (.inl (some (.int x)), σ)) f h t = f x σ := rfl
theorem y2r (x : Nat) (σ : HS) (f : Nat → HS → Option Res) (h : Nat → HS → Option Res) (t : tk2 f h) : bd2 (some (.inl (some (.ref x)), σ)) f h t = f x σ := rfl
theorem y0e (E : Nat) (σ : HS) (f : HS → Option Res) (h : Nat → HS → Option Res) (t : tk0 f h) : bd0 (some (.inr E, σ)) f h t = h E σ := rfl
theorem y1e (E : Nat) (σ : HS) (f : Int32 → HS → Option Res) (h : Nat → HS → Option Res) (t : tk1 f h) : bd1 (some (.inr E, σ)) f h t = h E σ := rfl
theorem y2e (E : Nat) (σ : HS) (f : Nat → HS → Option Res) (h : Nat → HS → Option Res) (t : tk2 f h) : bd2 (some (.inr E, σ)) f h t = h E σ := rfl
theorem neF {a b : Nat} (h : a < b ∨ b < a) : (a = b) = False := eq_false (by omega)
theorem u2_r {α : Type} (f : Nat → Nat → α) (o k : Nat) (v : α) (a b : Nat) : u2 f o k v a b = if a = o ∧ b = k then v else f a b := rfl
theorem u2_u2 {α : Type} (f : Nat → Nat → α) (o k : Nat) (v v' : α) : u2 (u2 f o k v) o k v' = u2 f o k v' := by
  funext a b
  unfold u2
  split <;> rfl
theorem w_abs2 {a : Int} : (if 0 ≤ a then w a else w (0 - a)) = w (a.natAbs : Int) := by
  split
  · rw [Int.natAbs_of_nonneg (by omega)]
  · congr 1; omega
theorem w_max2 {a b : Int} : (if a < b then w b else w a) = w (max a b) := by
  split
  · rw [Int.max_eq_right (by omega)]
  · rw [Int.max_eq_left (by omega)]
theorem w_min2 {a b : Int} : (if a < b then w a else w b) = w (min a b) := by
  split
  · rw [Int.min_eq_left (by omega)]
  · rw [Int.min_eq_right (by omega)]
theorem bft (b : Bool) : (b = false ∨ b = true) = True := by cases b <;> simp
