/-! CALLS, the second part: the call instructions -/
section CAM
variable {G : GP} {y d : Nat} {p : Program} {l : Launch} {e : Env} {R : Room} {s : State} {m : MethodId} {args : Array Value} {below : List Frame} {meth : Method} {c : Code} {Q : State → Prop} {n0 c0 w0 : Nat} {ad0 : Nat → Nat} {o : Option Value ⊕ Nat} {τ : HS} {M : Nat → DI} {wp : Nat → Nat}
theorem allNL_mem : ∀ {st : List Value}, allNL st = true → ∀ v ∈ st, notLong v = true
  | [], _, v, hv => by cases hv
  | w :: st, h, v, hv => by
    unfold allNL at h
    rw [Bool.and_eq_true] at h
    rcases List.mem_cons.mp hv with rfl | hv
    · exact h.1
    · exact allNL_mem h.2 v hv
theorem callG_go {cl : CL} {k : KK} {z n rk i pc : Nat} {hs : List Nat} {ls st : List Value} {σ : HS} {ad : Nat → Nat} {H : Heap} {locs : List Loc} {cells slots : Nat} {S : Array Slot}
    (B : Bse G y (d + 1) p l R s m args meth c) (KS : KSt G y p l e R s m args below meth c Q n0 c0 w0 ad0 M o τ k) (F : Fin G y p l e R s m args below meth c Q n0 c0 w0 ad0 o τ) (C : CTR G l d cl) (hge : ∀ y a σ, oGe σ (cl y a σ)) (hkg : ∀ i ls st σ, oGe σ (k i ls st σ)) (hRc : hC τ ≤ c0 + R.cells) (hRs : hW τ ≤ w0 + R.slots)
    (hn : (M (i + 1)).1 = pc + 3) (hz : z < 374) (hnp : n = mNp z + cond (mSt z) 0 1) (hH : okH y M wp pc hs (mHh y) = true) (I : Inv G y s n0 c0 w0 ad0 σ ls st ad H locs cells slots S)
    (run : ∀ (o1 : Option Value ⊕ Nat) (σ1 : HS), vx_Met l (mNm z) (mWd z :: LTg) (rmD d (hC σ1 - hC σ) (hW σ1 - hW σ)) (KPre G (st.take n).reverse σ ad) (KQ G (hN σ) ad o1 σ1) (KX G (hN σ) ad o1 σ1) (hC σ1 - hC σ) (hW σ1 - hW σ) (gAx G) → cells + (hC σ1 - hC σ) ≤ R.cells ∧ slots + (hW σ1 - hW σ) ≤ R.slots → catS (st.drop n) ≤ 8 → n ≤ st.length →
      ∃ a, vx_Run p l e R s m args below meth c H locs cells slots (hC σ1 - hC σ) (hW σ1 - hW σ) (F0 m pc S (st.map (rz ad))) ((st.drop n).map (rz ad)) (KQ G (hN σ) ad o1 σ1 a) (KX G (hN σ) ad o1 σ1) (gAx G))
    (h : callG cl k z n rk hs i ls st σ = some (o, τ)) : W p l e R s m args below meth c H locs cells slots Q (F0 m pc S (st.map (rz ad))) := by
  unfold callG at h
  obtain ⟨hc, h⟩ := cond_inv h
  rw [Bool.and_eq_true, Bool.and_eq_true] at hc
  obtain ⟨⟨hc1, hc2⟩, hc3⟩ := hc
  have hc1 := of_decide_eq_true hc1
  have hc2 := of_decide_eq_true hc2
  have hav : ∀ v ∈ (st.take n).reverse, (vok (hN σ) v ∧ known v = true) ∧ notLong v = true := fun v hv => by
    have hv2 := List.mem_reverse.mp hv
    exact ⟨I.2.2.1 v (List.mem_of_mem_take hv2), allNL_mem hc3 v hv2⟩
  have hlen : (st.take n).reverse.length = mNp z + cond (mSt z) 0 1 := by
    rw [List.length_reverse, List.length_take, Nat.min_eq_left hc2, hnp]
  have i8 := I.2.2.2.2.2.2.2.1
  have i9 := I.2.2.2.2.2.2.2.2
  -- whatever the call gave
  have main : ∀ (o1 : Option Value ⊕ Nat) (σ1 : HS), cl z (st.take n).reverse σ = some (o1, σ1) → sLe σ1 τ → (∀ v : Option Value, o1 = .inl v → k (i + 1) ls (v.toList ++ st.drop n) σ1 = some (o, τ)) → (∀ x : Nat, o1 = .inr x → hnd hs x σ1 k ls = some (o, τ)) → W p l e R s m args below meth c H locs cells slots Q (F0 m pc S (st.map (rz ad))) := by
    intro o1 σ1 hcl hle hret hthr
    have hge1 := hge z _ σ o1 σ1 hcl
    have g1 := hge1.2.1
    have g2 := hge1.2.2
    have g3 := hle.2.1
    have g4 := hle.2.2
    obtain ⟨a, hr⟩ := run o1 σ1 (C z _ σ o1 σ1 ad hcl hz hav hlen) ⟨by omega, by omega⟩ hc1 hc2
    refine ab_call hr I.2.2.2.2.1 (fun v ad' H1 locs1 e1 ha hR1 hv hS1 => ?_) (fun x ad' H1 locs1 q ce e1 x1 x5 ha hR1 hS1 hce hcv hcl2 => ?_)
    · have hk := hret v e1
      have hgo := (KS _ _ _ _ hk).2 _ _ _ _ _ _ (I.back (st1 := v.toList ++ st.drop n) hge1 ha hR1 hS1 (fun w hw => by
        rcases List.mem_append.mp hw with hw | hw
        · exact Or.inr (hv w (Option.mem_toList.mp hw))
        · exact Or.inl (List.mem_of_mem_drop hw)))
      rw [hn, List.map_append, map_up (n := hN σ) (st := st.drop n) (fun v hv => I.2.2.1 v (List.mem_of_mem_drop hv)) ha] at hgo
      have e2 : v.toList.map (rz ad') = (v.map (rz ad')).toList := by cases v <;> rfl
      rw [e2] at hgo
      exact hgo
    · exact hnd_go (i := i) (st := []) B KS F (I.back (st1 := []) hge1 ha hR1 hS1 (fun w hw => by cases hw)) x1 x5 hce hcv hcl2 (mHh y) hs [] hH (by rw [B.2.2.2.2.2.2.2.2.2.1]; rfl) (fun z hz => by cases hz) (hthr x e1)
  rcases hcl : cl z (st.take n).reverse σ with _ | ⟨⟨_ | v⟩ | x, σ1⟩
  · rw [hcl] at h
    split at h <;> cases h
  · rw [hcl] at h
    split at h
    · have h : k (i + 1) ls (st.drop n) σ1 = some (o, τ) := h
      exact main _ σ1 hcl (KS _ _ _ _ h).1 (fun v hv => by cases hv; exact h) (fun x hx => by cases hx)
    · cases h
    · cases h
  · rw [hcl] at h
    split at h
    · cases h
    · obtain ⟨x, e1, h⟩ := li_inv h
      subst e1
      exact main _ σ1 hcl (KS _ _ _ _ h).1 (fun v hv => by cases hv; exact h) (fun x hx => by cases hx)
    · obtain ⟨x, e1, h⟩ := lr_inv h
      subst e1
      exact main _ σ1 hcl (KS _ _ _ _ h).1 (fun v hv => by cases hv; exact h) (fun x hx => by cases hx)
  · rw [hcl] at h
    have h : hnd hs x σ1 k ls = some (o, τ) := by split at h <;> exact h
    exact main _ σ1 hcl (oGe.hnd hkg hs _ _ h) (fun v hv => by cases hv) (fun x2 hx => by cases hx; exact h)
/-- what the check says of a call -/
theorem okC_ok {i k kd : Nat} {pc : Nat} {ins : Instr} {z n rk ci : Nat} {hs : List Nat} {c1 : Int32} (h : okC y M wp i k kd = true) (hM : M i = (pc, ins, z :: n :: rk :: ci :: hs, c1)) : (Cond.methodLink (mNm y).cls k (mNm z) ∈ LTg ∨ (Cond.methodLinkNest (mNm y).cls k (mNm z) "HoopFair" ∈ lw_tbl ∧ (mNm z).name = "<init>")) ∧ n = mNp z + cond (mSt z) 0 1 ∧ z < 374 ∧
    ((kd = 0 → mSt z = false ∧ (mNm z).name ≠ "<init>" ∧ ∃ r, getC ci = some r ∧ r.1 = (mNm z).cls ∧ ci < 13) ∧ (kd = 1 → mSt z = false ∧ (mNm z).name = "<init>" ∧ mRt z = none ∧ ci < 13) ∧ (kd = 2 → mSt z = true ∧ (mNm z).name ≠ "<init>")) ∧ okH y M wp pc hs (mHh y) = true := by
  unfold okC at h
  rw [hM] at h
  dsimp only at h
  rw [Bool.and_eq_true, Bool.and_eq_true, Bool.and_eq_true, Bool.and_eq_true, Bool.and_eq_true, Bool.or_eq_true, Bool.and_eq_true] at h
  obtain ⟨⟨⟨⟨⟨h1, h2⟩, h3⟩, h4⟩, h5⟩, h6⟩ := h
  refine ⟨h1.elim (fun q => Or.inl (wdI_ok q)) (fun q => Or.inr ⟨wnI_ok q.1, of_decide_eq_true q.2⟩), of_decide_eq_true h2, of_decide_eq_true h3, ⟨fun hv => ?_, fun hv => ?_, fun hv => ?_⟩, h6⟩
  · subst hv
    have h5 : (decide (mSt z = false) && decide ((mNm z).name ≠ "<init>") && (match getC ci with
        | some r => decide (r.fst = (mNm z).cls) && decide (ci < 13)
        | none => false)) = true := h5
    rw [Bool.and_eq_true, Bool.and_eq_true] at h5
    refine ⟨of_decide_eq_true h5.1.1, of_decide_eq_true h5.1.2, ?_⟩
    have h7 := h5.2
    cases hg : getC ci with
    | none => rw [hg] at h7; cases h7
    | some r =>
      rw [hg] at h7
      dsimp only at h7
      rw [Bool.and_eq_true] at h7
      exact ⟨r, rfl, of_decide_eq_true h7.1, of_decide_eq_true h7.2⟩
  · subst hv
    have h5 : (decide (mSt z = false) && decide ((mNm z).name = "<init>") && decide (mRt z = none) && decide (ci < 13)) = true := h5
    rw [Bool.and_eq_true, Bool.and_eq_true, Bool.and_eq_true] at h5
    exact ⟨of_decide_eq_true h5.1.1.1, of_decide_eq_true h5.1.1.2, of_decide_eq_true h5.1.2, of_decide_eq_true h5.2⟩
  · subst hv
    have h5 : (decide (mSt z = true) && decide ((mNm z).name ≠ "<init>")) = true := h5
    rw [Bool.and_eq_true] at h5
    exact ⟨of_decide_eq_true h5.1, of_decide_eq_true h5.2⟩
theorem st_split0 {st : List Value} {n : Nat} (h : n ≤ st.length) : ∃ As : List Value, st = As.reverse ++ st.drop n ∧ As.length = n ∧ (st.take n).reverse = As :=
  ⟨(st.take n).reverse, by rw [List.reverse_reverse, List.take_append_drop], by rw [List.length_reverse, List.length_take]; omega, rfl⟩
theorem st_split {st : List Value} {n a : Nat} (h : n + 1 ≤ st.length) (hr : (st.drop n).headD .null = .ref a) : ∃ As : List Value, st = As.reverse ++ .ref a :: st.drop (n + 1) ∧ As.length = n ∧ (st.take (n + 1)).reverse = .ref a :: As := by
  have h1 : st.drop n = .ref a :: st.drop (n + 1) := by
    rw [List.drop_eq_getElem_cons (by omega : n < st.length)] at hr ⊢
    rw [show st[n] = .ref a from hr]
  refine ⟨(st.take n).reverse, by rw [List.reverse_reverse, ← h1, List.take_append_drop], by rw [List.length_reverse, List.length_take]; omega, ?_⟩
  have h2 : st.take (n + 1) = st.take n ++ [.ref a] := by
    have h3 : st.take (n + 1) ++ st.drop (n + 1) = (st.take n ++ [.ref a]) ++ st.drop (n + 1) := by
      rw [List.take_append_drop, List.append_assoc, List.singleton_append, ← h1, List.take_append_drop]
    exact List.append_cancel_right h3
  rw [h2, List.reverse_append]
  rfl
theorem mWd_c {z : Nat} (h : mHh z = []) : mWd z = .code (mNm z) (mBy z) (mMx z) (mRt z) := by unfold mWd; rw [if_pos h]
theorem mWd_w {z : Nat} (h : ¬ mHh z = []) : mWd z = .codeWith (mNm z) (mBy z) (mMx z) (mRt z) (mHh z) := by unfold mWd; rw [if_neg h]
theorem good_ws {z : Nat} (h : MOK z) : GoodIn LTg (mWd z :: LTg) := fun w hw => by
  rcases List.mem_cons.mp hw with rfl | hw
  · exact LTg_good _ h.1
  · exact LTg_good _ hw
theorem good_app {a b : List Cond} (ha : ∀ w ∈ a, w ∈ LTg) (hb : GoodIn LTg b) : GoodIn LTg (a ++ b) := fun w hw => by
  rcases List.mem_append.mp hw with hw | hw
  · exact LTg_good _ (ha w hw)
  · exact hb w hw
end CAM
