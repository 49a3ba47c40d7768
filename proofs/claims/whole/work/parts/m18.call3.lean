/-! CALLS, the third part: invokevirtual, invokestatic, invokespecial; throws -/
section CAO
variable {G : GP} {y d : Nat} {p : Program} {l : Launch} {e : Env} {R : Room} {s : State} {m : MethodId} {args : Array Value} {below : List Frame} {meth : Method} {c : Code} {Q : State → Prop} {n0 c0 w0 : Nat} {ad0 : Nat → Nat} {o : Option Value ⊕ Nat} {τ : HS} {M : Nat → DI} {wp : Nat → Nat}
set_option maxRecDepth 100000 in
theorem lc_room {a D L : Nat} (h1 : a ≤ 40) (h2 : (D + 1) * 60 + 300 ≤ L) : 8 + (a + 11) + (D * 60 + 300) ≤ L := by omega
set_option maxHeartbeats 1000000 in
theorem sd_virt {cl : CL} {k : KK} {i : Nat} {ls st : List Value} {σ : HS} {pc n z nn rk ci : Nat} {hs : List Nat} {c1 : Int32} (B : Bse G y (d + 1) p l R s m args meth c) (KS : KSt G y p l e R s m args below meth c Q n0 c0 w0 ad0 M o τ k) (F : Fin G y p l e R s m args below meth c Q n0 c0 w0 ad0 o τ) (C : CTR G l d cl) (hge : ∀ y a σ, oGe σ (cl y a σ)) (hkg : ∀ i ls st σ, oGe σ (k i ls st σ)) (hRc : hC τ ≤ c0 + R.cells) (hRs : hW τ ≤ w0 + R.slots) (hmo : ∀ z, z < 374 → MOK z)
    (hM : M i = (pc, .invokevirtual n, z :: nn :: rk :: ci :: hs, c1)) (hok : dcI y M i 3 = true) (hokc : okC y M wp i n 0 = true) (h : (lr ((st.drop (nn - 1)).headD .null) fun a => cond (decide (hK σ a = ci)) (callG cl k z nn rk hs i ls st σ) none) = some (o, τ)) : Go G y p l e R s m args below meth c Q n0 c0 w0 ad0 M i ls st σ := by
  intro ad H locs cells slots S I
  obtain ⟨hd, hn⟩ := dcI_ok hok hM
  obtain ⟨hlink, hnp, hz, hvirt, hH⟩ := okC_ok hokc hM
  obtain ⟨o1, o2, o3, o4, o5, o6, o7, o8, o9, o10⟩ := hmo z hz
  have BB := B
  obtain ⟨hx, hb, hml, hown, hts, hE, hnm, hrt, hlk, htab, hst, hRf, hRl⟩ := B
  rw [hM]
  dsimp only
  have R0 := I.2.2.2.1
  have hfr1 : d + 20 + 1 ≤ R.frames := by omega
  have hfr2 : 8 + (mMx z + 11) + (d * 60 + 300) ≤ R.locals := lc_room o8 hRl
  obtain ⟨hst0, hni, r, hg, hr1, hci⟩ := hvirt.1 rfl
  obtain ⟨a, ea, h⟩ := lr_inv h
  obtain ⟨hk, h⟩ := cond_inv h
  have hk := of_decide_eq_true hk
  rw [hst0] at hnp
  have hnp : nn = mNp z + 1 := hnp
  subst hnp
  have hh0 : mHh z = [] := o10.resolve_left (by rw [hst0]; decide)
  obtain ⟨a1, a2, hw⟩ := R0.cell hk (Or.inl hci)
  rw [ent_c hk hci] at hw
  have ha0 := refne R0 hk (by omega)
  obtain ⟨q1, q2⟩ := o3 hst0
  refine callG_go BB KS F C hge hkg hRc hRs hn hz (by rw [hst0]; rfl) hH I (fun o1' σ1 hMet hroom hcat hlen => ?_) h
  obtain ⟨As, e1, e2, e3⟩ := st_split hlen ea
  rw [e3] at hMet
  have hstk : st.map (rz ad) = (As.map (rz ad)).reverse ++ .ref (ad a) :: (st.drop (mNp z + 1)).map (rz ad) := by
    conv => lhs; rw [e1]
    rw [List.map_append, List.map_cons, List.map_reverse, rz_ref1 ha0]
  have hargs : (.ref a :: As : List Value).map (rz ad) = .ref (ad a) :: As.map (rz ad) := by rw [List.map_cons, rz_ref1 ha0]
  have hKP : ∀ U : State, U.heap = H → s.WarmedH U.vm → KPre G (.ref a :: As) σ ad (Value.ref (ad a) :: As.map (rz ad)).toArray U := fun U hU hW => by
    have := KPre_at (av := .ref a :: As) hE I.2.2.2.2.1 R0 U hU hW
    rw [hargs] at this
    exact this
  have hcs : 2 * (F0 m pc S ((st.drop (mNp z + 1)).map (rz ad))).monitorRoom + (((st.drop (mNp z + 1)).map (rz ad)).map fun v => v.category).sum ≤ 8 := by
    rw [catS_map (n := hN σ) _ (fun v hv => I.2.2.1 v (List.mem_of_mem_drop hv))]
    show 2 * 0 + _ ≤ 8
    omega
  have hlk2 := hlink.resolve_right (fun q => hni q.2)
  have hsel := q2.resolve_left hni
  refine ⟨_, vx_runV ⟨hx, hb, hml, hown, hts⟩ hMet (C := (mNm z).cls) (cwV (mNp z) hts (good_app (fun w hw2 => ?_) (good_ws (hmo z hz))) (by rw [mWd_c hh0]) rfl rfl ⟨rfl, o6.1, o6.2, o7⟩ ⟨?_, ?_⟩) ⟨KPre_blind, ?_, hKP⟩ rfl (by rw [List.length_map, e2]) (I.len) hstk hcs hd hroom⟩
  · simp only [List.mem_cons, List.not_mem_nil, or_false] at hw2
    rcases hw2 with rfl | rfl | rfl | rfl
    · exact hlk2
    · exact q1
    · exact hsel
    · exact o4
  · exact hfr1
  · exact hfr2
  · obtain ⟨cell, g1, g2, g3⟩ := va_recv hE.1 R0.2.1 hg hw
    rw [hr1] at g3
    exact ⟨cell, g1, g2, g3⟩

set_option maxHeartbeats 1000000 in
theorem sd_spec {cl : CL} {k : KK} {i : Nat} {ls st : List Value} {σ : HS} {pc n z nn rk ci : Nat} {hs : List Nat} {c1 : Int32} (B : Bse G y (d + 1) p l R s m args meth c) (KS : KSt G y p l e R s m args below meth c Q n0 c0 w0 ad0 M o τ k) (F : Fin G y p l e R s m args below meth c Q n0 c0 w0 ad0 o τ) (C : CTR G l d cl) (hge : ∀ y a σ, oGe σ (cl y a σ)) (hkg : ∀ i ls st σ, oGe σ (k i ls st σ)) (hRc : hC τ ≤ c0 + R.cells) (hRs : hW τ ≤ w0 + R.slots) (hmo : ∀ z, z < 374 → MOK z)
    (hM : M i = (pc, .invokespecial n, z :: nn :: rk :: ci :: hs, c1)) (hok : dcI y M i 3 = true) (hokc : okC y M wp i n 1 = true) (h : (lr ((st.drop (nn - 1)).headD .null) fun a => cond (decide (hK σ a = ci)) (callG cl k z nn rk hs i ls st σ) none) = some (o, τ)) : Go G y p l e R s m args below meth c Q n0 c0 w0 ad0 M i ls st σ := by
  intro ad H locs cells slots S I
  obtain ⟨hd, hn⟩ := dcI_ok hok hM
  obtain ⟨hlink, hnp, hz, hvirt, hH⟩ := okC_ok hokc hM
  obtain ⟨o1, o2, o3, o4, o5, o6, o7, o8, o9, o10⟩ := hmo z hz
  have BB := B
  obtain ⟨hx, hb, hml, hown, hts, hE, hnm, hrt, hlk, htab, hst, hRf, hRl⟩ := B
  rw [hM]
  dsimp only
  have R0 := I.2.2.2.1
  have hfr1 : d + 20 + 1 ≤ R.frames := by omega
  have hfr2 : 8 + (mMx z + 11) + (d * 60 + 300) ≤ R.locals := lc_room o8 hRl
  obtain ⟨hst0, hni, hrt0, hci⟩ := hvirt.2.1 rfl
  obtain ⟨a, ea, h⟩ := lr_inv h
  obtain ⟨hk, h⟩ := cond_inv h
  have hk := of_decide_eq_true hk
  rw [hst0] at hnp
  have hnp : nn = mNp z + 1 := hnp
  subst hnp
  have hh0 : mHh z = [] := o10.resolve_left (by rw [hst0]; decide)
  obtain ⟨a1, a2, hw⟩ := R0.cell hk (Or.inl hci)
  rw [ent_c hk hci] at hw
  have ha0 := refne R0 hk (by omega)
  obtain ⟨q1, q2⟩ := o3 hst0
  refine callG_go BB KS F C hge hkg hRc hRs hn hz (by rw [hst0]; rfl) hH I (fun o1' σ1 hMet hroom hcat hlen => ?_) h
  obtain ⟨As, e1, e2, e3⟩ := st_split hlen ea
  rw [e3] at hMet
  have hstk : st.map (rz ad) = (As.map (rz ad)).reverse ++ .ref (ad a) :: (st.drop (mNp z + 1)).map (rz ad) := by
    conv => lhs; rw [e1]
    rw [List.map_append, List.map_cons, List.map_reverse, rz_ref1 ha0]
  have hargs : (.ref a :: As : List Value).map (rz ad) = .ref (ad a) :: As.map (rz ad) := by rw [List.map_cons, rz_ref1 ha0]
  have hKP : ∀ U : State, U.heap = H → s.WarmedH U.vm → KPre G (.ref a :: As) σ ad (Value.ref (ad a) :: As.map (rz ad)).toArray U := fun U hU hW => by
    have := KPre_at (av := .ref a :: As) hE I.2.2.2.2.1 R0 U hU hW
    rw [hargs] at this
    exact this
  have hcs : 2 * (F0 m pc S ((st.drop (mNp z + 1)).map (rz ad))).monitorRoom + (((st.drop (mNp z + 1)).map (rz ad)).map fun v => v.category).sum ≤ 8 := by
    rw [catS_map (n := hN σ) _ (fun v hv => I.2.2.1 v (List.mem_of_mem_drop hv))]
    show 2 * 0 + _ ≤ 8
    omega
  have hwd : mWd z :: LTg = Cond.code (mNm z) (mBy z) (mMx z) none :: LTg := by rw [mWd_c hh0, hrt0]
  rcases hlink with hlk2 | ⟨hlk2, -⟩
  · refine ⟨_, vx_runI ⟨hx, hb, hml, hown, hts⟩ hMet (cwI (mNp z) hts (good_ws (hmo z hz)) hwd rfl rfl (hts _ o4) (hts _ hlk2) (hts _ q1) hni ⟨o6.1, o6.2, o7⟩ ⟨?_, ?_⟩) ⟨KPre_blind, hKP⟩ rfl (by rw [List.length_map, e2]) I.len hstk hcs hd hroom⟩
    · exact hfr1
    · exact hfr2
  · refine ⟨_, vx_runIN ⟨hx, hb, hml, hown, hts⟩ hMet ⟨va_cnB (mNp z) hts (good_ws (hmo z hz)) hwd rfl rfl (hE.2.1 _ hlk2 rfl) (hts _ o4) ⟨o6.1, o6.2, o7⟩ ⟨?_, ?_⟩, hni, hts _ q1⟩ ⟨KPre_blind, hKP⟩ rfl (by rw [List.length_map, e2]) I.len hstk hcs hd hroom⟩
    · exact hfr1
    · exact hfr2

set_option maxHeartbeats 1000000 in
theorem sd_stat {cl : CL} {k : KK} {i : Nat} {ls st : List Value} {σ : HS} {pc n z nn rk ci : Nat} {hs : List Nat} {c1 : Int32} (B : Bse G y (d + 1) p l R s m args meth c) (KS : KSt G y p l e R s m args below meth c Q n0 c0 w0 ad0 M o τ k) (F : Fin G y p l e R s m args below meth c Q n0 c0 w0 ad0 o τ) (C : CTR G l d cl) (hge : ∀ y a σ, oGe σ (cl y a σ)) (hkg : ∀ i ls st σ, oGe σ (k i ls st σ)) (hRc : hC τ ≤ c0 + R.cells) (hRs : hW τ ≤ w0 + R.slots) (hmo : ∀ z, z < 374 → MOK z)
    (hM : M i = (pc, .invokestatic n, z :: nn :: rk :: ci :: hs, c1)) (hok : dcI y M i 3 = true) (hokc : okC y M wp i n 2 = true) (h : callG cl k z nn rk hs i ls st σ = some (o, τ)) : Go G y p l e R s m args below meth c Q n0 c0 w0 ad0 M i ls st σ := by
  intro ad H locs cells slots S I
  obtain ⟨hd, hn⟩ := dcI_ok hok hM
  obtain ⟨hlink, hnp, hz, hvirt, hH⟩ := okC_ok hokc hM
  obtain ⟨o1, o2, o3, o4, o5, o6, o7, o8, o9, o10⟩ := hmo z hz
  have BB := B
  obtain ⟨hx, hb, hml, hown, hts, hE, hnm, hrt, hlk, htab, hst, hRf, hRl⟩ := B
  rw [hM]
  dsimp only
  have R0 := I.2.2.2.1
  have hfr1 : d + 20 + 1 ≤ R.frames := by omega
  have hfr2 : 8 + (mMx z + 11) + (d * 60 + 300) ≤ R.locals := lc_room o8 hRl
  obtain ⟨hst0, hni⟩ := hvirt.2.2 rfl
  rw [hst0] at hnp
  have hnp : nn = mNp z := hnp
  subst hnp
  have hlk2 := hlink.resolve_right (fun q => hni q.2)
  refine callG_go BB KS F C hge hkg hRc hRs hn hz (by rw [hst0]; rfl) hH I (fun o1' σ1 hMet hroom hcat hlen => ?_) h
  obtain ⟨As, e1, e2, e3⟩ := st_split0 hlen
  rw [e3] at hMet
  have hstk : st.map (rz ad) = (As.map (rz ad)).reverse ++ (st.drop (mNp z)).map (rz ad) := by
    conv => lhs; rw [e1]
    rw [List.map_append, List.map_reverse]
  have hKP : ∀ U : State, U.heap = H → s.WarmedH U.vm → KPre G As σ ad (As.map (rz ad)).toArray U := KPre_at (av := As) hE I.2.2.2.2.1 R0
  have hcs : 2 * (F0 m pc S ((st.drop (mNp z)).map (rz ad))).monitorRoom + (((st.drop (mNp z)).map (rz ad)).map fun v => v.category).sum ≤ 8 := by
    rw [catS_map (n := hN σ) _ (fun v hv => I.2.2.1 v (List.mem_of_mem_drop hv))]
    show 2 * 0 + _ ≤ 8
    omega
  have hgood : GoodIn LTg (va_wsS (mNm y).cls n (mNm z) (mWd z :: LTg)) := good_app (fun w hw2 => by
    simp only [List.mem_cons, List.not_mem_nil, or_false] at hw2
    rcases hw2 with rfl | rfl | rfl
    · exact hlk2
    · exact o2 hst0
    · exact o4) (good_ws (hmo z hz))
  have hfr : (rmD d (hC σ1 - hC σ) (hW σ1 - hW σ)).frames + 1 ≤ R.frames ∧ 8 + (mMx z + 11) + (rmD d (hC σ1 - hC σ) (hW σ1 - hW σ)).locals ≤ R.locals := by
    exact ⟨hfr1, hfr2⟩
  by_cases hh0 : mHh z = []
  · exact ⟨_, vx_runS ⟨hx, hb, hml, hown, hts⟩ hMet (va_cwS (mNp z) hts hgood (by rw [mWd_c hh0]) rfl rfl ⟨o6.1, o6.2, o7⟩ hfr) ⟨KPre_blind, hKP⟩ rfl (by rw [List.length_map, e2]) I.len hstk hcs hd hroom⟩
  · exact ⟨_, vx_runSX ⟨hx, hb, hml, hown, hts⟩ hMet (vx_cwSW (mNp z) hts hgood (by rw [mWd_w hh0]) rfl rfl ⟨o6.1, o6.2, o7⟩ hfr) ⟨KPre_blind, hKP⟩ rfl (by rw [List.length_map, e2]) I.len hstk hcs hd hroom⟩

end CAO
