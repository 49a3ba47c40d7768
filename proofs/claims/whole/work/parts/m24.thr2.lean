/-! THROWS by the kit's rows -/
section THY
variable {G : GP} {l : Launch}
theorem RelH.sp {σ : HS} {ad : Nat → Nat} {H : Heap} {a b : Nat} (h : RelH txT G σ ad H) : RelH txT G (hSp σ a b) ad H := h
set_option maxHeartbeats 1000000 in
theorem thrq_c (q : String × Nat × Nat × Nat × String × Nat × Nat × Bool) (hq : q ∈ thrT) (hc1 : q.1 = "HoopFair") (hc2 : (q.2.2.2.1, q.2.2.2.2.1) ∈ thrC) : THRq G l q := by
  intro y d p e R s m args below meth c n0 c0 w0 ad0 ls st σ pc ad H locs cells slots S B hRc hRs hown1 hh d0 d3 dd d9 hcat I
  obtain ⟨hx, hb, hml, hown, hts, hE, hnm, hrt, hlk, htab, hst, hRf, hRl⟩ := B
  rw [← hown1] at hown
  have i8 := I.2.2.2.2.2.2.2.1
  have i9 := I.2.2.2.2.2.2.2.2
  have R0 := I.2.2.2.1
  have hct := I.cat
  have e1 : hC (hSp σ 1 6) = hC σ + 1 := rfl
  have e2 : hW (hSp σ 1 6) = hW σ + 6 := rfl
  obtain ⟨⟨k1, k2⟩, k3, k4⟩ := thr_lnk q hq
  have hat : ∀ w ∈ vx_atS q.1 q.2.2.2.1 q.2.2.2.2.1 xnm, w.before args s = true := by
    rw [hc1]
    exact thr_hat hts hE hc2
  have hgood : ∀ w ∈ Cond.classLink q.1 q.2.1 q.2.2.2.2.1 :: Cond.initialized q.2.2.2.2.1 :: vx_atS q.1 q.2.2.2.1 q.2.2.2.2.1 xnm, vx_ot w = true := by
    intro w hw
    obtain ⟨z1, z2⟩ := thr_ot2 q hq
    rcases List.mem_cons.mp hw with rfl | hw
    · exact z1
    · rcases List.mem_cons.mp hw with rfl | hw
      · exact z2
      · rw [hc1] at hw
        exact (thr_ot _ hc2 w hw).1
  obtain ⟨n1, n2, n3⟩ := thrT_E q hq
  have hout : ∀ pc' : Nat, ∀ x ∈ c.exceptionTable.toList, covers x pc' = false := fun pc' x hx2 => by
    rw [htab, hh] at hx2
    cases hx2
  have hstr := thr_str q hq
  cases hs : strT[q.2.2.2.2.2.2.1 - 1]? with
  | none => rw [hs] at hstr; cases hstr
  | some r =>
    rw [hs] at hstr
    have hr := Option.some.inj hstr
    have hr1 : r.1 = q.1 := congrArg Prod.fst hr
    have hr2 : r.2.1 = q.2.2.1 := congrArg Prod.snd hr
    have hR := hE.2.2.2.1 _ _ hs
    rw [hr1, hr2] at hR
    have hXC : ∀ t : State, s.vm.Alike t.vm → H.size ≤ t.heap.size → (∀ q : Nat, q < H.size → t.heap[q]? = H[q]?) → KX G n0 ad0 (.inr q.2.2.2.2.2.1) (hSp σ 1 6) q.2.2.2.2.1 s t := fun t hv hz hk => ⟨⟨q.2.2.2.2.2.1, ad, rfl, n1, n2, n3, I.2.2.2.2.2.1, (R0.keep hk).sp⟩, Nat.le_trans I.2.2.2.2.1.1 hz, fun a h1 h2 => by rw [hk a (Nat.lt_of_lt_of_le h1 I.2.2.2.2.1.1)]; exact I.2.2.2.2.1.2.1 a h1 h2⟩
    have hnl : xnm.length = 2 := rfl
    have f1 : xnm.length + 3 < R.frames := by rw [hnl]; omega
    have f2 : ((st.map (rz ad)).map fun v => v.category).sum + (13 * (xnm.length + 1) + 43) ≤ R.locals := by rw [hct, hnl]; omega
    cases hw : q.2.2.2.2.2.2.2 with
    | false =>
      rw [hw] at dd d9
      dsimp only [cond_false] at dd d9
      rw [Bool.and_eq_true] at dd
      exact vx_throwS hx hb hst hown (thr_fit.1 q hq) thr_fit.2 (hts _ (List.mem_filter.mpr ⟨k1, k2⟩)) (hts _ (List.mem_filter.mpr ⟨k3, k4⟩)) hR hat hgood hE.2.2.2.2.2.1 hE.2.2.2.2.2.2.1 I.2.2.2.2.1 (by rw [hml]; exact I.len) d0 d3 (of_decide_eq_true dd.1) (of_decide_eq_true dd.2) d9 (hout _) f1 f2 (by omega) (by omega) hlk hXC I.2.2.2.2.1.2.2 (by omega) (by omega)
    | true =>
      rw [hw] at dd d9
      dsimp only [cond_true] at dd d9
      rw [Bool.and_eq_true] at dd
      exact vx_throwSW hx hb hst hown (thr_fit.1 q hq) thr_fit.2 (hts _ (List.mem_filter.mpr ⟨k1, k2⟩)) (hts _ (List.mem_filter.mpr ⟨k3, k4⟩)) hR hat hgood hE.2.2.2.2.2.1 hE.2.2.2.2.2.2.1 I.2.2.2.2.1 (by rw [hml]; exact I.len) d0 d3 (of_decide_eq_true dd.1) (of_decide_eq_true dd.2) d9 (hout _) f1 f2 (by omega) (by omega) hlk hXC I.2.2.2.2.1.2.2 (by omega) (by omega)
end THY
