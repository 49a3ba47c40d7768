/-! sets of bits -/
def tb32 (x : Int32) (h : Nat) : Bool := x.toBitVec.getLsbD h
theorem tb_ext {x y : Int32} (h : ∀ k, k < 32 → tb32 x k = tb32 y k) : x = y := by
  rw [← Int32.toBitVec_inj]
  exact BitVec.eq_of_getLsbD_eq fun k hk => h k hk
theorem tb_and (x y : Int32) (k : Nat) : tb32 (x &&& y) k = (tb32 x k && tb32 y k) := by
  unfold tb32
  rw [Int32.toBitVec_and, BitVec.getLsbD_and]
theorem tb_or (x y : Int32) (k : Nat) : tb32 (x ||| y) k = (tb32 x k || tb32 y k) := by
  unfold tb32
  rw [Int32.toBitVec_or, BitVec.getLsbD_or]
theorem tb_not (x : Int32) {k : Nat} (h : k < 32) : tb32 (~~~x) k = !tb32 x k := by
  unfold tb32
  rw [Int32.toBitVec_not, BitVec.getLsbD_not]
  simp [h]
theorem tb_0 (k : Nat) : tb32 (w 0) k = false := by
  unfold tb32
  rw [show (w 0).toBitVec = 0#32 from rfl]
  simp
theorem tb_bit (j : Nat) (hj : j < 10) (k : Nat) (hk : k < 32) : tb32 (bit j) k = decide (k = j) := by
  have hk' : ∀ k : Fin 32, ∀ j : Fin 10, tb32 (bit (j.val : Int)) k.val = decide (k.val = j.val) := by decide
  exact hk' ⟨k, hk⟩ ⟨j, hj⟩
theorem tb_sh (x : Int32) (j : Nat) (hj : j < 10) : (((x >>> (w j &&& w 31)) &&& w 1) = w 1) ↔ tb32 x j = true := by
  unfold tb32
  rw [← Int32.toBitVec_inj, Int32.toBitVec_and, Int32.toBitVec_shiftRight]
  rw [show (w 1).toBitVec = 1#32 from rfl, bv_and1]
  have e2 : ((w (j : Int) &&& w 31).toBitVec.smod 32) = BitVec.ofNat 32 j := by
    have : ∀ j : Fin 10, ((w (j.val : Int) &&& w 31).toBitVec.smod 32) = BitVec.ofNat 32 j.val := by decide
    exact this ⟨j, hj⟩
  rw [e2]
  rcases (by omega : j = 0 ∨ j = 1 ∨ j = 2 ∨ j = 3 ∨ j = 4 ∨ j = 5 ∨ j = 6 ∨ j = 7 ∨ j = 8 ∨ j = 9) with rfl | rfl | rfl | rfl | rfl | rfl | rfl | rfl | rfl | rfl <;> simp [BitVec.getLsbD_sshiftRight, BitVec.getElem_sshiftRight]
theorem tb_ad (x : Int32) (j : Nat) (hj : j < 10) : (x &&& (w 1 <<< (w j &&& w 31)) = w 0) ↔ tb32 x j = false := by
  have hb := fun k hk => tb_bit j hj k hk
  constructor
  · intro h
    have h2 : tb32 (x &&& bit j) j = tb32 (w 0) j := by
      show tb32 (x &&& (w 1 <<< (w (j : Int) &&& w 31))) j = _
      rw [h]
    rw [tb_and, hb j (by omega), tb_0, decide_eq_true rfl, Bool.and_true] at h2
    exact h2
  · intro h
    refine tb_ext fun k hk => ?_
    show tb32 (x &&& bit j) k = _
    rw [tb_and, hb k hk, tb_0]
    by_cases c : k = j
    · rw [c, h]; rfl
    · rw [decide_eq_false c, Bool.and_false]
theorem tb_full (n : Nat) (hn : n ≤ 10) (k : Nat) (hk : k < 32) : tb32 ((w 1 <<< (w n &&& w 31)) - w 1) k = decide (k < n) := by
  have : ∀ n : Fin 11, ∀ k : Fin 32, tb32 ((w 1 <<< (w (n.val : Int) &&& w 31)) - w 1) k.val = decide (k.val < n.val) := by decide
  exact this ⟨n, by omega⟩ ⟨k, hk⟩
/-- the empty set, by its bits -/
theorem tb_emp {x : Int32} (h : x ≠ w 0) : ∃ k, k < 32 ∧ tb32 x k = true := by
  by_cases c : ∃ k, k < 32 ∧ tb32 x k = true
  · exact c
  · exact (h (tb_ext fun k hk => by
      rw [tb_0]
      cases e : tb32 x k with
      | false => rfl
      | true => exact (c ⟨k, hk, e⟩).elim)).elim
