/-! THROWS of the class, but NoSuchElementException (its constructor's pool is another than the kit's bundle asks) -/
section THX
variable {G : GP} {l : Launch}
def xnm : List String := ["java/lang/RuntimeException", "java/lang/Exception"]
def nse : String := "java/util/NoSuchElementException"
theorem thr_fit : (∀ q ∈ thrT, Bundle.fit q.2.2.2.2.1 = true) ∧ ∀ n ∈ xnm, Bundle.fit n = true := by decide +kernel
theorem thr_lnk : ∀ q ∈ thrT, (Cond.classLink q.1 q.2.1 q.2.2.2.2.1 ∈ lw_tbl ∧ goodWord (Cond.classLink q.1 q.2.1 q.2.2.2.2.1) = true) ∧ Cond.initialized q.2.2.2.2.1 ∈ lw_tbl ∧ goodWord (Cond.initialized q.2.2.2.2.1) = true := by decide +kernel
theorem thr_str : ∀ q ∈ thrT, (strT[q.2.2.2.2.2.2.1 - 1]?).map (fun r => (r.1, r.2.1)) = some (q.1, q.2.2.1) := by decide +kernel
def thrC : List (Nat × String) := [(128, "java/lang/IllegalArgumentException"), (138, "java/lang/UnsupportedOperationException"), (291, "java/lang/IllegalStateException"), (457, "java/lang/IndexOutOfBoundsException")]
theorem thr_c : ∀ q ∈ thrT, q.2.2.2.2.1 = nse ∨ (q.1 = "HoopFair" ∧ (q.2.2.2.1, q.2.2.2.2.1) ∈ thrC) := by decide +kernel
theorem thr_ot : ∀ q ∈ thrC, ∀ w ∈ vx_atS "HoopFair" q.1 q.2 xnm, vx_ot w = true ∧ (goodWord w || ngw w) = true := by decide +kernel
theorem thr_ot2 : ∀ q ∈ thrT, vx_ot (Cond.classLink q.1 q.2.1 q.2.2.2.2.1) = true ∧ vx_ot (Cond.initialized q.2.2.2.2.1) = true := by decide +kernel
theorem thr_in : ∀ q ∈ thrC, ∀ w ∈ vx_atS "HoopFair" q.1 q.2 xnm, w ∈ lw_tbl := by decide +kernel
theorem ngw_use {w : Cond} {args : Array Value} {s : State} (hg : ngw w = true) (h : w.before #[] s = true) : w.before args s = true := by
  cases w <;> first
    | cases hg; done
    | exact va_Nw.use rfl h
/-- every word of a throw holds -/
theorem thr_hat {args : Array Value} {s : State} (hts : ∀ w ∈ LTg, w.before args s = true) (hE : EnvOK G s) {q : Nat × String} (hq : q ∈ thrC) : ∀ w ∈ vx_atS "HoopFair" q.1 q.2 xnm, w.before args s = true := fun w hw => by
  have h1 := thr_in q hq w hw
  have h2 := (thr_ot q hq w hw).2
  rw [Bool.or_eq_true] at h2
  rcases h2 with h2 | h2
  · exact hts w (List.mem_filter.mpr ⟨h1, h2⟩)
  · exact ngw_use h2 (hE.2.1 w h1 h2)
/-- a throw at its place, of the row q -/
def THRq (G : GP) (l : Launch) (q : String × Nat × Nat × Nat × String × Nat × Nat × Bool) : Prop := ∀ (y d : Nat) (p : Program) (e : Env) (R : Room) (s : State) (m : MethodId) (args : Array Value) (below : List Frame) (meth : Method) (c : Code) (n0 c0 w0 : Nat) (ad0 : Nat → Nat) (ls st : List Value) (σ : HS) (pc : Nat) (ad : Nat → Nat) (H : Heap) (locs : List Loc) (cells slots : Nat) (S : Array Slot),
  Bse G y (d + 1) p l R s m args meth c → hC σ + 1 ≤ c0 + R.cells → hW σ + 6 ≤ w0 + R.slots → q.1 = (mNm y).cls → mHh y = [] → decode (mBy y) pc = .ok (.new q.2.1, 3) → decode (mBy y) (pc + 3) = .ok (.dup, 1) →
  (cond q.2.2.2.2.2.2.2 (decide (decode (mBy y) (pc + 4) = .ok (.ldc_w q.2.2.1, 3)) && decide (decode (mBy y) (pc + 7) = .ok (.invokespecial q.2.2.2.1, 3))) (decide (decode (mBy y) (pc + 4) = .ok (.ldc q.2.2.1, 2)) && decide (decode (mBy y) (pc + 6) = .ok (.invokespecial q.2.2.2.1, 3))) = true) → decode (mBy y) (pc + cond q.2.2.2.2.2.2.2 10 9) = .ok (.athrow, 1) → catS st ≤ 8 → Inv G y s n0 c0 w0 ad0 σ ls st ad H locs cells slots S →
  W p l e R s m args below meth c H locs cells slots (vx_MQ below (KQ G n0 ad0 (.inr q.2.2.2.2.2.1) (hSp σ 1 6)) (KX G n0 ad0 (.inr q.2.2.2.2.2.1) (hSp σ 1 6)) args s (hC (hSp σ 1 6) - c0) (hW (hSp σ 1 6) - w0) (gAx G)) (F0 m pc S (st.map (rz ad)))
theorem thr_of (hq : ∀ q ∈ thrT, THRq G l q) : THR G l := by
  intro y d p e R s m args below meth c n0 c0 w0 ad0 o τ M wp cl k i ls st σ pc n E c1 B hRc hRs hok hM h ad H locs cells slots S I
  unfold okI at hok
  rw [hM] at hok h ⊢
  dsimp only at hok ⊢
  have h : cond (decide (catS st ≤ 8)) (some (.inr E, hSp σ 1 6)) none = some (o, τ) := h
  obtain ⟨hc, h⟩ := cond_inv h
  cases h
  cases hf : thrT.find? (fun q => decide (q.2.1 = n) && cond q.2.2.2.2.2.2.2 (decide (decode (mBy y) (pc + 4) = .ok (.ldc_w q.2.2.1, 3)) && decide (decode (mBy y) (pc + 7) = .ok (.invokespecial q.2.2.2.1, 3))) (decide (decode (mBy y) (pc + 4) = .ok (.ldc q.2.2.1, 2)) && decide (decode (mBy y) (pc + 6) = .ok (.invokespecial q.2.2.2.1, 3)))) with
  | none => rw [hf] at hok; cases hok
  | some q =>
    rw [hf] at hok
    dsimp only at hok
    rw [Bool.and_eq_true, Bool.and_eq_true, Bool.and_eq_true, Bool.and_eq_true, Bool.and_eq_true] at hok
    obtain ⟨⟨⟨⟨⟨g1, g2⟩, g3⟩, g4⟩, g5⟩, g6⟩ := hok
    have g2 : q.2.2.2.2.2.1 = E := of_decide_eq_true g2
    subst g2
    have hfq := List.find?_some hf
    rw [Bool.and_eq_true] at hfq
    have hn : q.2.1 = n := of_decide_eq_true hfq.1
    subst hn
    exact hq q (List.mem_of_find?_eq_some hf) y d p e R s m args below meth c n0 c0 w0 ad0 ls st σ pc ad H locs cells slots S B hRc hRs (of_decide_eq_true g1) (of_decide_eq_true g6) (of_decide_eq_true g3) (of_decide_eq_true g4) hfq.2 (of_decide_eq_true g5) (of_decide_eq_true hc) I
end THX
