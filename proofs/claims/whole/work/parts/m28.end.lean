/-! THE CLAIM OUT OF ONE WALK OF THE LAW'S BODY. Your part is whole_start (and what it stands on); all else here is the same for every law, but numbers. -/
def R_law : String := "HoopFairLaw"
/-- the Statement's own room, whatever its numbers are -/
def lw_C : Nat := room_1.cells
def lw_S : Nat := room_1.slots
theorem lw_CS : 3000 ≤ lw_C ∧ 600000 ≤ lw_S := by decide +kernel
def lw_P (b : Addr) (xs : List Int32) (args : Array Value) (s : State) : Prop := args = #[.ref b] ∧ s.IntsAt b xs ∧ xs.length ≤ 3584 ∧ (Jvm.Cond.and given_1 narrow_1).before args s = true
def lw_Q (_ : Array Value) (s : State) (o : Outcome) (t : State) : Prop := o = .returned (some (.int 1)) ∧ Framed s o t [] lw_C lw_S
def lw_Z (below : List Frame) (a : Array Value) (s : State) : State → Prop := fun t => ∃ o, t.status = .running ∧ Ended t below o ∧ lw_Q a s o t
/-- the law's own end, with 1 on the stack, nothing written that was there before, its room as the claim has it -/
theorem lw_ret {p : Program} {l : Launch} {e : Env} {s : State} {m : MethodId} {below : List Frame} {meth : Method} {c : Code} {b : Nat} (hx : p.tables.exec = Jvm.exec) (hb : c.code = code) (hr : meth.sig.returnType = ret) (hlocks : meth.locks = false) {pc : Nat} {H : Heap} {ls : Array Slot} (hdg : decode code pc = .ok (.ireturn, 1)) : W p l e room_1 s m #[Value.ref b] below meth c H [] lw_C lw_S (lw_Z below #[Value.ref b] s) (F0 m pc ls [.int 1]) := by
  intro T hT X
  obtain ⟨fs, hret, hrun, hended, hW, hframe⟩ := X.leave (v := some (.int 1)) (hlocks := hlocks) (fun h => by rw [hr] at h; cases h)
  have hmeth' : T.vm.method? m = some meth := X.method'
  refine ⟨T.setFrames fs, ?_, .returned (some (.int 1)), hrun, hended, rfl, ⟨_, rfl⟩, hW, hframe⟩
  jvm_step X.here [X.here.top, hx, hb, hdg, hmeth', hr, ret, narrow_b1]
  (try refine ⟨rfl, ?_⟩); (try refine ⟨rfl, ?_⟩)
  first | (intro acts; rw [hret _ acts rfl rfl rfl]) | rw [hret _ _ rfl rfl rfl]
  exact Steps.refl _
/-- what holds at the law's entry: the machine, the code, the tables' words (any of lw_tbl by 'hts w (by decide +kernel)'), the script of L ints xs at the cell b, what the Statement gives of the start (any of its parts by flat_of_before) -/
def lw_At (p : Program) (s : State) (m : MethodId) (meth : Method) (c : Code) (b L : Nat) (xs : Nat → Int32) : Prop :=
  p.tables.exec = Jvm.exec ∧ c.code = code ∧ meth.sig.returnType = ret ∧ c.maxLocals = 7 ∧ s.vm.findClass R_law = some m.cls ∧ (∀ w ∈ lw_tbl, w.before #[Value.ref b] s = true) ∧ va_X b L xs s s.heap ∧ b < s.heap.size ∧ meth.locks = false ∧ (Jvm.Cond.and given_1 narrow_1).before #[Value.ref b] s = true
/-- the heap at the entry: no object of the law's own; the strings, the script -/
def hs_0 (L : Nat) (xs : Nat → Int32) : HS := ((79, 0, 0, (fun a => if a = 0 then 98 else if a < 78 then 30 else if a = 78 then 25 else 99), (fun a => if a = 78 then L else (txT a).length), (fun _ _ => 0)), (fun a k => if a = 78 then xs k else (txT a).getD k 0), (fun _ _ => 0))
theorem tx_w : ∀ r : _root_.Fin 78, tW r.val ≠ [] → (txT r.val).length = (tW r.val).length ∧ ∀ i : _root_.Fin 40, i.val < (tW r.val).length → (txT r.val).getD i.val 0 = w ((tW r.val).getD i.val 0) := by decide +kernel
theorem tx_n : ∀ r : _root_.Fin 78, (tW r.val).length ≤ 40 := by decide +kernel
theorem mt_374 : mBy 374 = code ∧ mMx 374 = 7 ∧ (mNm 374).cls = R_law ∧ mRt 374 = ret ∧ tableOf (mHh 374) = [] := ⟨rfl, rfl, rfl, rfl, rfl⟩
set_option maxHeartbeats 4000000 in
theorem whole_start {p : Program} {e : Env} {s : State} {m : MethodId} {below : List Frame} {meth : Method} {c : Code} (l : Launch) (hflags : l.flags = flags0) {b L : Nat} {xs : Nat → Int32} (hLb : L ≤ 3584) (C0 : lw_At p s m meth c b L xs) (hnm : meth.name = (mNm 374).name) (htab : c.exceptionTable.toList = []) : W p l e room_1 s m #[Value.ref b] below meth c s.heap [] 0 0 (lw_Z below #[Value.ref b] s) (entryFrame m ([Value.ref b] : List Value).toArray 7) := by
  obtain ⟨hx, hb, hr, hml, hown, hts, hX, hbl, hlocks, hgv⟩ := C0
  obtain ⟨m1, m2, m3, m4, m5⟩ := mt_374
  obtain ⟨G, hE, eA, e78, eL, eX⟩ := env_0 hts hX hbl hgv
  have hst : l.stackTraces = false := by
    unfold Launch.stackTraces
    rw [hflags]
    decide +kernel
  -- the picture of the heap
  have hRel : RelH txT G (hs_0 L xs) (gS G) s.heap := by
    refine ⟨⟨Nat.le_refl _, rfl, fun k k1 k2 => ?_, rfl, fun o o1 o2 => ?_, fun o ho => ?_, fun o j => ?_, fun k k1 k2 => ⟨?_, fun j hj => ?_⟩, ?_, fun j hj => ?_⟩, fun k q hq => ?_, ⟨fun i j p q hi _ _ => ?_, fun k q hq => ?_⟩, fun k _ => rfl⟩
    · show (if k = 0 then 98 else if k < 78 then 30 else if k = 78 then 25 else 99) = 30
      rw [if_neg (by omega), if_pos (by omega)]
    · have o2' : o < 79 := o2
      omega
    · have ho' : 79 ≤ o := ho
      show (if o = 0 then 98 else if o < 78 then 30 else if o = 78 then 25 else 99) = 99
      rw [if_neg (by omega), if_neg (by omega), if_neg (by omega)]
    · show 0 < 79
      omega
    · show (if k = 78 then L else (txT k).length) = (txT k).length
      rw [if_neg (by omega)]
    · show (if k = 78 then xs j else (txT k).getD j 0) = (txT k).getD j 0
      rw [if_neg (by omega)]
    · show (if 78 = 78 then L else (txT 78).length) = gL G
      rw [if_pos rfl, eL]
    · show (if 78 = 78 then xs j else (txT 78).getD j 0) = gX G j
      rw [if_pos rfl, eX]
    · have := (wsL_in hq).1
      have h0 : hN (hs_0 L xs) = 79 := rfl
      omega
    · have := (wsL_in hi).1
      have h0 : hN (hs_0 L xs) = 79 := rfl
      omega
    · have := (wsL_in hq).1
      have h0 : hN (hs_0 L xs) = 79 := rfl
      omega
  -- the abstract run
  obtain ⟨τ, N', hev, hinv, n0, n1⟩ := lw_372 (d := 0) (ls := L) (S := xs) (vc := 0) (vw := 0) (K := hK (hs_0 L xs)) (L := hL (hs_0 L xs)) (R := hR (hs_0 L xs)) (I := hI (hs_0 L xs)) (J := hJ (hs_0 L xs)) rfl rfl (fun k => rfl) (fun r hr => by
      have r77 := tW_r hr
      obtain ⟨q1, q2⟩ := tx_w ⟨r, by omega⟩ hr
      have q3 := tx_n ⟨r, by omega⟩
      refine ⟨?_, ?_, fun i hi => ?_⟩
      · show (if r = 0 then 98 else if r < 78 then 30 else if r = 78 then 25 else 99) = 30
        rw [if_neg (by omega), if_pos (by omega)]
      · show (if r = 78 then L else (txT r).length) = _
        rw [if_neg (by omega)]
        exact q1
      · show (if r = 78 then xs i else (txT r).getD i 0) = _
        rw [if_neg (by omega)]
        exact q2 ⟨i, by have : (tW r).length ≤ 40 := q3; omega⟩ hi) (fun a ha => by
      have e : hK (hs_0 L xs) a = 99 := by
        show (if a = 0 then 98 else if a < 78 then 30 else if a = 78 then 25 else 99) = 99
        rw [if_neg (by omega), if_neg (by omega), if_neg (by omega)]
      rw [e]
      omega) (by omega) (by omega)
  have hev' : ev PR (45 + 1) 374 [.ref 78] (hs_0 L xs) = some (.inl (some (.int (w 1))), τ) := hev
  obtain ⟨Nf, hrun⟩ := ev_iff.mp hev'
  have hexe : exec (run PR Nf 45) (PR 374).1 Nf 0 ([.ref 78] ++ List.replicate ((PR 374).2 - ([.ref 78] : List Value).length) (.retAddr 0)) [] (hs_0 L xs) = some (.inl (some (.int (w 1))), τ) := hrun
  -- its room
  have hroom : hC τ ≤ lw_C ∧ hW τ ≤ lw_S := by
    obtain ⟨vn, vc, vw, K, L', R, I, J, g, mk, nx, rfl, xg, xc, xm, xs'⟩ := hinv
    obtain ⟨⟨a1, a2, a3, a4, a5⟩, -⟩ := xs'
    constructor
    · show vc ≤ lw_C
      exact Nat.le_trans (by omega : vc ≤ 3000) lw_CS.1
    · show vw ≤ lw_S
      exact Nat.le_trans (by omega : vw ≤ 600000) lw_CS.2
  have B : Bse G 374 (45 + 1) p l room_1 s m #[Value.ref b] meth c := ⟨hx, hb.trans m1.symm, hml.trans m2.symm, by rw [m3]; exact hown, fun w hw => hts w (LTg_in hw), hE, hnm, hr.trans m4.symm, hlocks, htab.trans m5.symm, hst, by decide, by decide⟩
  have F : Fin G 374 p l e room_1 s m #[Value.ref b] below meth c (lw_Z below #[Value.ref b] s) (hN (hs_0 L xs)) (hC (hs_0 L xs)) (hW (hs_0 L xs)) (gS G) (.inl (some (.int (w 1)))) τ := by
    intro ad H locs cells slots hR1 hS ha hc hw
    have hc' : 0 + cells = hC τ := hc
    have hw' : 0 + slots = hW τ := hw
    refine ⟨fun x pc S ho hd hty => ?_, fun a pc S ho => (by cases ho), fun pc S ho => (by cases ho), fun E pc S rest q ce ho => (by cases ho)⟩
    cases ho
    refine va_forget (fun q hq => by have h1 := hS.2.2 q hq; rw [eA] at h1; exact h1) ?_
    refine W.widen (k := lw_C) (n := lw_S) (by omega) (by omega) ?_
    exact lw_ret hx hb hr hlocks (by rw [← m1]; exact hd)
  have C : CTR G l 45 (run PR Nf 45) := ctr_all hst tab_all thr_ok txt_ok Nf 45
  have hge : ∀ y a σ, oGe σ (run PR Nf 45 y a σ) := oGe.run PR Nf 45
  have KS := exec_sound (M := (PR 374).1) (wp := wp_374) (n0 := hN (hs_0 L xs)) (c0 := hC (hs_0 L xs)) (w0 := hW (hs_0 L xs)) (ad0 := gS G) (o := .inl (some (.int (w 1)))) (τ := τ) (e := e) (below := below) B F C hge (by show hC τ ≤ 0 + lw_C; omega) (by show hW τ ≤ 0 + lw_S; omega) (fun z hz => (tab_all z hz).1) (fun i => (law_ok i).elim Or.inl (fun q => Or.inr fun k ls st σ => nop_none q))
    (fun k i ls st σ' pc n E c1 hi hM hs => by
      rw [hM] at hs
      have hs1 : cond (decide (catS st ≤ 8)) (some (.inr E, hSp σ' 1 6)) none = some ((.inl (some (.int (w 1))) : Option Value ⊕ Nat), τ) := hs
      obtain ⟨-, hs2⟩ := cond_inv hs1
      cases hs2)
    (fun k i ls st σ' pc n rk c1 hk hi hrk hM hs => txt_ok _ _ _ _ _ _ _ _ _ _ _ _ _ _ _ _ _ _ _ wp_374 (run PR Nf 45) k i ls st σ' pc n rk c1 B (by show hC τ ≤ 0 + lw_C; omega) (by show hW τ ≤ 0 + lw_S; omega) hk hi hrk hM hs) Nf
  have hl2 := entry_lvR (ad := gS G) (n := 79) (mx := 7) (av := [.ref 78]) (fun v hv => by
    cases hv with
    | head => exact ⟨⟨(by decide : (78 : Nat) < 79), rfl⟩, rfl⟩
    | tail _ h => cases h) (by decide)
  have hav : ([.ref 78] : List Value).map (rz (gS G)) = [Value.ref b] := by
    show [rz (gS G) (.ref 78)] = _
    rw [rz_ref1 (by decide), e78]
  rw [hav] at hl2
  have hgo := (KS _ _ _ _ hexe).2 (gS G) s.heap [] 0 0 _ ⟨hl2, by rw [m2]; rfl, fun v hv => by (cases hv), hRel, va_S.rf, fun k _ => rfl, Nat.le_refl _, rfl, rfl⟩
  have hpc : ((PR 374).1 0).1 = 0 := rfl
  rw [hpc] at hgo
  rw [lg_entry_eq]
  exact hgo
set_option maxHeartbeats 4000000 in
theorem lw_walk (l : Launch) (hflags : l.flags = flags0) (b : Addr) (xs : List Int32) : MetFree l x (headSpec (Jvm.Cond.code x code maxLocals ret :: tables_1) room_1) (lw_P b xs) (fun _ _ _ _ _ => True) lw_Q := by
  refine MetFree.of_bodyS (code := code) (maxLocals := maxLocals) (ret := ret) (by decide) ?_ ?_
  · intro args s m h hn
    obtain ⟨meth, c, h1, h2, h3, h4, h5, h6, -, -⟩ := Cond.code_spec hn (atoms_spec (ws := Jvm.Cond.code x code maxLocals ret :: tables_1) h _ List.mem_cons_self)
    exact ⟨meth, c, h1, h2, h3, h4, h5, h6⟩
  · intro p e s m args below meth c s₁ B hml0 hP _
    obtain ⟨rfl, hx, hbd, hgv⟩ := hP
    obtain ⟨scr, harrAt, hlist, hof, hsmall⟩ := hx
    obtain ⟨hcb, hkn, -, -⟩ := State.arrayAt?_spec harrAt
    have hown : s.vm.findClass R_law = some m.cls := findClass_of_methodNamed B.named
    have hts0 : ∀ c ∈ (Jvm.Cond.code x code maxLocals ret :: tables_1), c.before #[Value.ref b] s = true := atoms_spec (ws := Jvm.Cond.code x code maxLocals ret :: tables_1) B.pre
    have hts : ∀ w ∈ lw_tbl, w.before #[Value.ref b] s = true := k2_hts_sels lw_privs (fun w hw => hts0 w (List.mem_cons_of_mem _ hw)) lw_privs_ok
    have hml : c.maxLocals = 7 := B.maxLocals_eq (hts0 _ List.mem_cons_self)
    have X₀ : Stand p l e room_1 s m #[Value.ref b] below meth c s₁ [] 0 0 := Stand.of_body B
    have hh0 : s₁.heap = s.heap := by rw [B.state]; rfl
    have hsz : scr.slots.size = xs.length := by rw [← Array.length_toList, hlist, List.length_map]
    have hval : ∀ j : Nat, j < xs.length → scr.slots[j]? = some (.int (xs.getD j 0)) := fun j hj => by
      rw [← Array.getElem?_toList, hlist]
      simp [hj]
    have hbl : b < s.heap.size := (Array.getElem?_eq_some_iff.mp hcb).1
    have hX : va_X b xs.length (fun j => xs.getD j 0) s s.heap := ⟨scr, hcb, hof, hkn, hsz, hval⟩
    have K : W p l e room_1 s m #[Value.ref b] below meth c s₁.heap [] 0 0 (lw_Z below #[Value.ref b] s) (entryFrame m ([Value.ref b] : List Value).toArray 7) := by
      rw [hh0]
      refine whole_start l hflags hbd ⟨B.exec, B.bytes, B.returns, hml, hown, hts, hX, hbl, B.notSynchronized, hgv⟩ (name_of_methodNamed B.named B.method).1 ?_
      obtain ⟨meth9, c9, h1, h2, -, -, -, -, h7, -⟩ := Cond.code_spec B.named (hts0 _ List.mem_cons_self)
      cases Option.some.inj (h1.symm.trans B.method)
      cases Option.some.inj (h2.symm.trans X₀.code)
      rw [Array.isEmpty_iff.mp h7]
    obtain ⟨t, a1, o, b1, b2, b3⟩ := K s₁ rfl X₀
    exact ⟨t, o, a1, b1, b2, b3⟩
theorem lw_pre_spec {args : Array Value} {s : State} (h : (Jvm.Cond.and given_1 narrow_1).before args s = true) (hr : rest_1_c.before args s = true) : ∃ (b : Addr) (xs : List Int32), lw_P b xs args s := by
  have hs := flat_of_before _ h
  have hq := flat_of_before _ hr
  have hc : (Cond.count 1).before args s = true := hs _ (by decide +kernel)
  have harr : (Cond.arrayOf (.arg 0) .int).before args s = true := hs _ (by decide +kernel)
  have hle : (Cond.le (.length (.arg 0)) (.int 3584)).before args s = true := hs _ (by decide +kernel)
  have hlen : (Cond.isInt (.length (.arg 0))).before args s = true := hq _ (by decide +kernel)
  have hall : (Cond.all (.arg 0) (.isInt (.elem (.arg 0) (.index 0)))).before args s = true := hq _ (by decide +kernel)
  obtain ⟨b, xs, hb, hx⟩ := State.ints_of_pre rfl harr hlen hall
  have hsm : xs.length < 2 ^ 31 := hx.choose_spec.2.2.2
  have hev : (Term.length (.arg 0)).eval args s none [] s = some (.int xs.length.toInt32) := hx.length_eval hb
  have hv := Cond.le_ints hev (show (Term.int 3584).eval args s none [] s = some (.int 3584) from rfl)
  have hd : xs.length.toInt32 ≤ 3584 := by
    simpa [Cond.before, Cond.holds, hv] using hle
  have hN : xs.length ≤ 3584 := (Int32.ofNat_le_ofNat hsm (by decide)).mp (show Int32.ofNat xs.length ≤ Int32.ofNat 3584 from hd)
  exact ⟨b, xs, Cond.one_arg hc (show args[0]? = some (.ref b) from hb), hx, hN, h⟩
theorem lw_comes (l : Launch) (hflags : l.flags = flags0) : Comes l x (Jvm.Cond.code x code maxLocals ret :: tables_1) room_1 (fun tb e args s => Calls_1 tb e args s ∧ rest_1 tb e args s ∧ Pre_1 tb e args s)
    (fun _ _ args s o t => lw_Q args s o t) := by
  intro p e ha hc hk s m args below hf hfit hheap happ hpre
  obtain ⟨b, xs, hP⟩ := lw_pre_spec hpre.2.2 hpre.2.1
  obtain ⟨k, o, h1, h2, h3, hQ⟩ := lw_walk l hflags b xs p e ha hc hk s m args below hf ((Spec.applies_iff_loose hf).mp happ).1 hP trivial
  exact ⟨k, o, h1, h2, h3, hQ⟩
theorem lw_frame {s t : State} {o : Outcome} {args : Array Value} (h : Framed s o t [] lw_C lw_S) :
    Framed s o t (fieldLocs frame_1_writes args s ++ arrayLocs frame_1_arrays args s ++ staticLocs frame_1_statics s) lw_C lw_S := h
theorem lw_limb (L : Cond) (hL : ∀ (args : Array Value) (s t : State), L.after args s (.returned (some (.int 1))) t = true) :
    ArmFor flags0 classFile x code maxLocals ret World_1 tables_1 room_1 Calls_1 rest_1 Pre_1
      (fun tb e a s o t => postC L tb e a s o t ∧ Framed s o t (fieldLocs frame_1_writes a s ++ arrayLocs frame_1_arrays a s ++ staticLocs frame_1_statics s) lw_C lw_S) := by
  intro l hflags _ _ p e ha hc hk s m args below hf hfit hheap happ hpre
  obtain ⟨k, o, h1, h2, h3, rfl, hF⟩ := lw_comes l hflags p e ha hc hk s m args below hf hfit hheap happ hpre
  exact ⟨k, _, h1, h2, h3, hL args s _, lw_frame hF⟩
theorem i_vc : Claimed_1_1 ∧ Claimed_1_2 := ⟨lw_limb limb_1_1 (fun args s t => by simp [limb_1_1, Cond.after, Cond.holds, Cond.value]), lw_limb limb_1_2 (fun args s t => Cond.after_iff.mpr (by
  first | (rw [show limb_1_2 = Cond.eq .result (.int 1) from rfl, Cond.eq_ints (x := 1) (y := 1) rfl rfl]; simp; done) | (simp [limb_1_2, Cond.value, Term.eval]; done)))⟩
