/-! THROWS of the class, but NoSuchElementException (its constructor's pool is another than the kit's bundle asks) -/
section THX
variable {G : GP} {l : Launch}
def xnm : List String := ["java/lang/RuntimeException", "java/lang/Exception"]
def nse : String := "java/util/NoSuchElementException"
theorem thr_fit : (∀ q ∈ thrT, Bundle.fit q.2.2.2.2.1 = true) ∧ ∀ n ∈ xnm, Bundle.fit n = true := by decide +kernel
theorem thr_lnk : ∀ q ∈ thrT, (Cond.classLink q.1 q.2.1 q.2.2.2.2.1 ∈ lw_tbl ∧ goodWord (Cond.classLink q.1 q.2.1 q.2.2.2.2.1) = true) ∧ Cond.initialized q.2.2.2.2.1 ∈ lw_tbl ∧ goodWord (Cond.initialized q.2.2.2.2.1) = true := by decide +kernel
theorem thr_str : ∀ q ∈ thrT, (strT[q.2.2.2.2.2.2.1 - 1]?).map (fun r => (r.1, r.2.1)) = some (q.1, q.2.2.1) := by decide +kernel
def thrC : List (Nat × String) := [(128, "java/lang/IllegalArgumentException"), (138, "java/lang/UnsupportedOperationException"), (291, "java/lang/IllegalStateException"), (457, "java/lang/IndexOutOfBoundsException")]
theorem thr_c : ∀ q ∈ thrT, q.2.2.2.2.1 = nse ∨ (q.1 = "HoopFair" ∧ (q.2.2.2.1, q.2.2.2.2.1) ∈ thrC) := by decide +kernel
theorem thr_ot : ∀ q ∈ thrC, ∀ w ∈ vx_atS "HoopFair" q.1 q.2 xnm, vx_ot w = true ∧ (goodWord w || ngw w) = true := by decide +kernel
theorem thr_ot2 : ∀ q ∈ thrT, vx_ot (Cond.classLink q.1 q.2.1 q.2.2.2.2.1) = true ∧ vx_ot (Cond.initialized q.2.2.2.2.1) = true := by decide +kernel
theorem thr_in : ∀ q ∈ thrC, ∀ w ∈ vx_atS "HoopFair" q.1 q.2 xnm, w ∈ lw_tbl := by decide +kernel
theorem ngw_use {w : Cond} {args : Array Value} {s : State} (hg : ngw w = true) (h : w.before #[] s = true) : w.before args s = true := by
  cases w <;> first
    | cases hg; done
    | exact va_Nw.use rfl h
/-- every word of a throw holds -/
theorem thr_hat {args : Array Value} {s : State} (hts : ∀ w ∈ LTg, w.before args s = true) (hE : EnvOK G s) {q : Nat × String} (hq : q ∈ thrC) : ∀ w ∈ vx_atS "HoopFair" q.1 q.2 xnm, w.before args s = true := fun w hw => by
  have h1 := thr_in q hq w hw
  have h2 := (thr_ot q hq w hw).2
  rw [Bool.or_eq_true] at h2
  rcases h2 with h2 | h2
  · exact hts w (List.mem_filter.mpr ⟨h1, h2⟩)
  · exact ngw_use h2 (hE.2.1 w h1 h2)
end THX
