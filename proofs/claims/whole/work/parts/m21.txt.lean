/-! TEXTS: String.length() and String.charAt(int) of a constant of one byte a sign -/
section TXA
variable {G : GP} {l : Launch}
def tRm (n : Nat) : Room := { frames := n, cells := 0, slots := 0, locals := n * 30 }
def tQ (v : Int32) : Array Value → State → Outcome → State → Prop := va_Qi (fun r (_ : Unit) => r = v) (fun _ _ => True) (fun _ => False)
def tQv : Array Value → State → Outcome → State → Prop := va_Qv (fun (_ : Unit) => True) (fun _ _ => True) (fun _ => False)
def tP (G : GP) (av : List Value) : Array Value → State → Prop := va_Pc av (EnvOK G)
theorem tP_blind {av : List Value} : FrameBlind (tP G av) := by
  intro a U g mk h
  exact ⟨h.1, h.2.mv (locs := []) (State.WarmedH.refl U) va_S.rf⟩
theorem tP_at {s : State} {av : List Value} {H : Heap} {locs : List Loc} (hE : EnvOK G s) (hS : va_S (gAx G) s.heap H locs) : ∀ U : State, U.heap = H → s.WarmedH U.vm → tP G av av.toArray U := fun U hU hW => ⟨rfl, hE.mv (locs := locs) hW (by rw [hU]; exact hS)⟩
theorem g_of {w : Cond} (p : Nat) (h : wdI p w = true) : w ∈ LTg := wdI_ok h
theorem t_good {w : Cond} (h : w ∈ LTg) : GoodIn LTg (w :: LTg) := fun x hx => by
  rcases List.mem_cons.mp hx with rfl | hx
  · exact LTg_good _ h
  · exact LTg_good _ hx
theorem va_sz {s : State} {p : Program} {e : Env} {R : Room} {m : MethodId} : True := trivial
/-- the shape of a walk's start -/
theorem t_start {y : MethodName} {cc : ByteArray} {mx : Nat} {ret : Option FieldType} {av : List Value} {n : Nat} {Qc : Array Value → State → Outcome → State → Prop} (hy : plainName y.cls = true) (hcat : (lg_sl av).length ≤ mx)
    (body : ∀ (p : Program) (e : Env) (s : State) (m : MethodId) (args : Array Value) (below : List Frame) (meth : Method) (c : Code) (S : Array Slot), p.tables.exec = Jvm.exec → c.code = cc → c.maxLocals = mx → s.vm.findClass y.cls = some m.cls → (∀ w ∈ LTg, w.before args s = true) → EnvOK G s → meth.sig.returnType = ret → meth.locks = false → lv_has S mx (lv_args 0 av) →
      W p l e (tRm n) s m args below meth c s.heap [] 0 0 (MQ below Qc args s 0 0 (gAx G)) (F0 m 0 S [])) :
    Met l y (.code y cc mx ret :: LTg) (tRm n) (tP G av) Qc 0 0 (gAx G) := by
  refine Met.ofW (cc := cc) (maxL := mx) (ret := ret) hy (ws' := LTg) rfl (fun p e s m args below meth c s₁ B hml hP => ?_)
  obtain ⟨ha, hE⟩ := hP
  have hts0 : ∀ w ∈ (Cond.code y cc mx ret :: LTg), w.before args s = true := atoms_spec (ws := Cond.code y cc mx ret :: LTg) B.pre
  have hl := lv_entry av (n := mx) hcat
  have := body p e s m args below meth c _ B.exec B.bytes hml (findClass_of_methodNamed B.named) (fun w hw => hts0 w (List.mem_cons_of_mem _ hw)) hE B.returns B.notSynchronized hl
  subst ha
  rw [lg_entry_eq]
  exact this
/-- the texts' fields -/
theorem t_cmp : Cond.fieldLink "java/lang/String" 38 "java/lang/String" "COMPACT_STRINGS" "Z" ∈ LTg := wdI_ok (p := 711) (by decide +kernel)
theorem t_val : Cond.fieldLink "java/lang/String" 9 "java/lang/String" "value" "[B" ∈ LTg := wdI_ok (p := 2400) (by decide +kernel)
theorem t_cod : Cond.fieldLink "java/lang/String" 15 "java/lang/String" "coder" "B" ∈ LTg := wdI_ok (p := 2401) (by decide +kernel)
theorem m_coder (k : Nat) (k1 : 1 ≤ k) (k2 : k ≤ 77) : Met l yJ0_coder_7d493 (.code yJ0_coder_7d493 cJ0_coder_7d493 1 (some .byte) :: LTg) (tRm 1) (tP G [.ref (gS G k)]) (tQ 0) 0 0 (gAx G) := by
  refine t_start (by decide) (Nat.le_refl _) (fun p e s m args below meth c S hx hb hml hown hts hE hrt hlk hl => ?_)
  have hS : va_S (gAx G) s.heap s.heap [] := va_S.rf
  obtain ⟨v, s1, s2, s3, s4⟩ := hE.2.2.2.2.2.2.2.1.1 k k1 k2
  refine va_gets hx hb (index := 38) hE.2.2.2.2.2.2.2.1.2.1 hS hown (hts _ t_cmp) (fun _ h => h) (by decide +kernel) ?_
  refine lv_if_eq (off := 10) (tgt := 13) hx hb (by decide +kernel) (by decide) (fun hc => absurd hc (by decide)) (fun _ => ?_)
  refine lv_aload_n hx hb (k := 0) (by decide +kernel) rfl (lv_at hl 0 rfl) ?_
  refine vk_getf hx hb (index := 15) s2 hS hown (hts _ t_cod) (fun _ h => h) (by decide +kernel) ?_
  refine lv_goto (off := 4) (tgt := 14) hx hb (by decide +kernel) (by decide) ?_
  exact W.zret hx hb hrt (by decide) (fun t ht hW => ⟨⟨0, (), rfl, rfl, trivial⟩, hS.F ht |> fun h => ⟨h.1, fun q h1 h2 => by rw [ht]⟩⟩) (fun q hq => by cases hq) (by decide +kernel) hlk
theorem m_latin (k : Nat) (k1 : 1 ≤ k) (k2 : k ≤ 77) : Met l yJ0_isLatin1_aae02 (.code yJ0_isLatin1_aae02 cJ0_isLatin1_aae02 1 (some .boolean) :: LTg) (tRm 1) (tP G [.ref (gS G k)]) (tQ 1) 0 0 (gAx G) := by
  refine t_start (by decide) (Nat.le_refl _) (fun p e s m args below meth c S hx hb hml hown hts hE hrt hlk hl => ?_)
  have hS : va_S (gAx G) s.heap s.heap [] := va_S.rf
  obtain ⟨v, s1, s2, s3, s4⟩ := hE.2.2.2.2.2.2.2.1.1 k k1 k2
  refine va_gets hx hb (index := 38) hE.2.2.2.2.2.2.2.1.2.1 hS hown (hts _ t_cmp) (fun _ h => h) (by decide +kernel) ?_
  refine lv_if_eq (off := 14) (tgt := 17) hx hb (by decide +kernel) (by decide) (fun hc => absurd hc (by decide)) (fun _ => ?_)
  refine lv_aload_n hx hb (k := 0) (by decide +kernel) rfl (lv_at hl 0 rfl) ?_
  refine vk_getf hx hb (index := 15) s2 hS hown (hts _ t_cod) (fun _ h => h) (by decide +kernel) ?_
  refine lv_if_ne (off := 7) (tgt := 17) hx hb (by decide +kernel) (by decide) (fun hc => absurd rfl hc) (fun _ => ?_)
  refine lv_iconst (n := 1) (v := 1) hx hb (by decide +kernel) (by decide) ?_
  refine lv_goto (off := 4) (tgt := 18) hx hb (by decide +kernel) (by decide) ?_
  exact W.zret hx hb hrt (by decide) (fun t ht hW => ⟨⟨1, (), rfl, rfl, trivial⟩, hS.F ht |> fun h => ⟨h.1, fun q h1 h2 => by rw [ht]⟩⟩) (fun q hq => by cases hq) (by decide +kernel) hlk
theorem m_chk0 (i n : Int32) (hi : 0 ≤ i) (hn : i < n) (f : Value) (hf : f = .null ∨ ∃ q, f = .ref q) : Met l yJ3_checkIndex_8e157 (.code yJ3_checkIndex_8e157 cJ3_checkIndex_8e157 3 (some .int) :: LTg) (tRm 1) (tP G [.int i, .int n, f]) (tQ i) 0 0 (gAx G) := by
  have hcat : (lg_sl [.int i, .int n, f]).length ≤ 3 := by rcases hf with rfl | ⟨q, rfl⟩ <;> exact Nat.le_refl _
  have hat : lv_args 0 [.int i, .int n, f] = [(0, .int i), (1, .int n), (2, f)] := by rcases hf with rfl | ⟨q, rfl⟩ <;> rfl
  refine t_start (by decide) hcat (fun p e s m args below meth c S hx hb hml hown hts hE hrt hlk hl => ?_)
  rw [hat] at hl
  have hS : va_S (gAx G) s.heap s.heap [] := va_S.rf
  refine lv_iload_n hx hb (k := 0) (by decide +kernel) rfl (lv_at hl 0 rfl) ?_
  refine lv_if_lt (off := 8) (tgt := 9) hx hb (by decide +kernel) (by decide) (fun hc => absurd hi (Int32.not_le.mpr hc)) (fun _ => ?_)
  refine lv_iload_n hx hb (k := 0) (by decide +kernel) rfl (lv_at hl 0 rfl) ?_
  refine lv_iload_n hx hb (k := 1) (by decide +kernel) rfl (lv_at hl 1 rfl) ?_
  refine lv_icmp_lt (off := 10) (tgt := 16) hx hb (by decide +kernel) (by decide) (fun _ => ?_) (fun hc => absurd hn hc)
  refine lv_iload_n hx hb (k := 0) (by decide +kernel) rfl (lv_at hl 0 rfl) ?_
  exact W.iret hx hb hrt (fun t ht hW => ⟨⟨i, (), rfl, rfl, trivial⟩, by rw [ht]; exact Nat.le_refl _, fun q h1 h2 => by rw [ht]⟩) (fun q hq => by cases hq) (by decide +kernel) hlk
theorem t_sio : Cond.fieldLink "java/lang/String" 1053 "jdk/internal/util/Preconditions" "SIOOBE_FORMATTER" "Ljava/util/function/BiFunction;" ∈ LTg := wdI_ok (p := 727) (by decide +kernel)
theorem t_w0 : Cond.methodLink "java/lang/String" 1059 yJ3_checkIndex_8e157 ∈ LTg ∧ Cond.static yJ3_checkIndex_8e157 ∈ LTg ∧ Cond.initialized "jdk/internal/util/Preconditions" ∈ LTg ∧ Cond.code yJ3_checkIndex_8e157 cJ3_checkIndex_8e157 3 (some .int) ∈ LTg := ⟨wdI_ok (p := 729) (by decide +kernel), wdI_ok (p := 730) (by decide +kernel), wdI_ok (p := 149) (by decide +kernel), wdI_ok (p := 731) (by decide +kernel)⟩
theorem t_wsS {own : String} {idx : Nat} {z : MethodName} {w : Cond} (h1 : Cond.methodLink own idx z ∈ LTg) (h2 : Cond.static z ∈ LTg) (h3 : Cond.initialized z.cls ∈ LTg) (h4 : w ∈ LTg) : GoodIn LTg (va_wsS own idx z (w :: LTg)) := good_app (fun x hx => by
  simp only [List.mem_cons, List.not_mem_nil, or_false] at hx
  rcases hx with rfl | rfl | rfl
  · exact h1
  · exact h2
  · exact h3) (t_good h4)
theorem t_wsV {own : String} {idx : Nat} {z : MethodName} {w : Cond} (h1 : Cond.methodLink own idx z ∈ LTg) (h2 : Cond.instanceMethod z ∈ LTg) (h3 : Cond.selects z.cls z z ∈ LTg) (h5 : Cond.initialized z.cls ∈ LTg) (h4 : w ∈ LTg) : GoodIn LTg (wsV own idx z.cls z (w :: LTg)) := good_app (fun x hx => by
  simp only [List.mem_cons, List.not_mem_nil, or_false] at hx
  rcases hx with rfl | rfl | rfl | rfl
  · exact h1
  · exact h2
  · exact h3
  · exact h5) (t_good h4)
theorem t_no {q : Nat} {A : Nat → Prop} (h : (fun _ : Nat => False) q) : A q := h.elim
theorem m_chk1 (i n : Int32) (hi : 0 ≤ i) (hn : i < n) : Met l yJ0_checkIndex_df160 (.code yJ0_checkIndex_df160 cJ0_checkIndex_df160 2 none :: LTg) (tRm 2) (tP G [.int i, .int n]) tQv 0 0 (gAx G) := by
  refine t_start (by decide) (Nat.le_refl _) (fun p e s m args below meth c S hx hb hml hown hts hE hrt hlk hl => ?_)
  have hS : va_S (gAx G) s.heap s.heap [] := va_S.rf
  refine lv_iload_n hx hb (k := 0) (by decide +kernel) rfl (lv_at hl 0 rfl) ?_
  refine lv_iload_n hx hb (k := 1) (by decide +kernel) rfl (lv_at hl 1 rfl) ?_
  obtain ⟨f, hf, hZ⟩ : ∃ f : Value, (f = .null ∨ ∃ q, f = .ref q) ∧ va_Z "jdk/internal/util/Preconditions" "SIOOBE_FORMATTER" "Ljava/util/function/BiFunction;" f (gAx G) s s.heap := by
    rcases hE.2.2.2.2.2.2.2.1.2.2 with h | ⟨t, h⟩
    · exact ⟨_, Or.inl rfl, h⟩
    · exact ⟨_, Or.inr ⟨t, rfl⟩, h⟩
  refine va_gets hx hb (index := 1053) hZ hS hown (hts _ t_sio) (fun _ h => h) (by decide +kernel) ?_
  refine va_calli (A0 := gAx G) (va_runS (As := [.int i, .int n, f]) (rest := []) ⟨hx, hb, hml, hown, hts⟩ (m_chk0 i n hi hn f hf) (va_cwS 3 hts (t_wsS t_w0.1 t_w0.2.1 t_w0.2.2.1 t_w0.2.2.2) rfl rfl rfl (by decide +kernel) ⟨by decide, by decide⟩) ⟨tP_blind, tP_at hE hS⟩ rfl rfl hl.1 rfl (lv_room (Nat.le_of_ble_eq_true rfl)) (show decode cJ0_checkIndex_df160 5 = .ok (.invokestatic 1059, 3) by decide +kernel) ⟨Nat.le_refl _, Nat.le_refl _⟩) hS (fun q _ h => h.elim) (fun q h => h) (fun r u t H1 locs1 ht hvm hw hB hz hk hS1 => ?_)
  refine lv_pop hx hb (by decide +kernel) rfl ?_
  exact W.vret hx hb hrt (fun t ht hW => ⟨⟨(), rfl, trivial, trivial⟩, by rw [ht]; exact hz, fun q h1 h2 => by rw [ht]; exact hk q h1 (fun h => h)⟩) hS1.2.2 (by decide +kernel) hlk
theorem t_w1 : Cond.methodLink "java/lang/StringLatin1" 9 yJ0_checkIndex_df160 ∈ LTg ∧ Cond.static yJ0_checkIndex_df160 ∈ LTg ∧ Cond.initialized "java/lang/String" ∈ LTg ∧ Cond.code yJ0_checkIndex_df160 cJ0_checkIndex_df160 2 none ∈ LTg := ⟨wdI_ok (p := 724) (by decide +kernel), wdI_ok (p := 725) (by decide +kernel), wdI_ok (p := 147) (by decide +kernel), wdI_ok (p := 726) (by decide +kernel)⟩
theorem t_w2 : Cond.methodLink "java/lang/String" 495 yJ1_charAt_3b067 ∈ LTg ∧ Cond.static yJ1_charAt_3b067 ∈ LTg ∧ Cond.initialized "java/lang/StringLatin1" ∈ LTg ∧ Cond.code yJ1_charAt_3b067 cJ1_charAt_3b067 2 (some .char) ∈ LTg := ⟨wdI_ok (p := 721) (by decide +kernel), wdI_ok (p := 722) (by decide +kernel), wdI_ok (p := 148) (by decide +kernel), wdI_ok (p := 723) (by decide +kernel)⟩
theorem t_w3 : Cond.methodLink "java/lang/String" 492 yJ0_isLatin1_aae02 ∈ LTg ∧ Cond.instanceMethod yJ0_isLatin1_aae02 ∈ LTg ∧ Cond.selects "java/lang/String" yJ0_isLatin1_aae02 yJ0_isLatin1_aae02 ∈ LTg ∧ Cond.code yJ0_isLatin1_aae02 cJ0_isLatin1_aae02 1 (some .boolean) ∈ LTg := ⟨wdI_ok (p := 717) (by decide +kernel), wdI_ok (p := 718) (by decide +kernel), wdI_ok (p := 719) (by decide +kernel), wdI_ok (p := 720) (by decide +kernel)⟩
theorem t_w4 : Cond.methodLink "java/lang/String" 335 yJ0_coder_7d493 ∈ LTg ∧ Cond.instanceMethod yJ0_coder_7d493 ∈ LTg ∧ Cond.selects "java/lang/String" yJ0_coder_7d493 yJ0_coder_7d493 ∈ LTg ∧ Cond.code yJ0_coder_7d493 cJ0_coder_7d493 1 (some .byte) ∈ LTg := ⟨wdI_ok (p := 707) (by decide +kernel), wdI_ok (p := 708) (by decide +kernel), wdI_ok (p := 709) (by decide +kernel), wdI_ok (p := 710) (by decide +kernel)⟩
/-- every text: its signs are of one byte, below 128 -/
theorem txT_all : ∀ k, k ≤ 77 → (txT k).length < 2 ^ 31 ∧ ∀ b ∈ txT k, (b &&& 255).toUInt32.toUInt16.toUInt32.toInt32 = b ∧ narrow .char (.int b) = .int b := by decide +kernel
/-- a start with the text's bytes at v -/
def tPvx (G : GP) (v k : Nat) (av : List Value) : Array Value → State → Prop := va_Pc av (fun U => EnvOK G U ∧ va_T .byte v (txT k).length (fun j => .int ((txT k).getD j 0)) (gAx G) U U.heap)
theorem tPvx_blind {v k : Nat} {av : List Value} : FrameBlind (tPvx G v k av) := by
  intro a U g mk h
  exact ⟨h.1, h.2.1.mv (locs := []) (State.WarmedH.refl U) va_S.rf, va_T.moved (State.WarmedH.refl U).alike h.2.2⟩
theorem tPvx_at {s : State} {v k : Nat} {av : List Value} {H : Heap} {locs : List Loc} (hE : EnvOK G s) (hT : va_T .byte v (txT k).length (fun j => .int ((txT k).getD j 0)) (gAx G) s s.heap) (hS : va_S (gAx G) s.heap H locs) : ∀ U : State, U.heap = H → s.WarmedH U.vm → tPvx G v k av av.toArray U := fun U hU hW => ⟨rfl, hE.mv (locs := locs) hW (by rw [hU]; exact hS), va_T.moved hW.alike (by rw [hU]; exact hT.kept hS.2.1)⟩
theorem m_lat (v k : Nat) (k2 : k ≤ 77) (j : Nat) (hj : j < (txT k).length) : Met l yJ1_charAt_3b067 (.code yJ1_charAt_3b067 cJ1_charAt_3b067 2 (some .char) :: LTg) (tRm 3) (tPvx G v k [.ref v, .int (nI j)]) (tQ ((txT k).getD j 0)) 0 0 (gAx G) := by
  refine Met.ofW (cc := cJ1_charAt_3b067) (maxL := 2) (ret := some .char) (by decide) (ws' := LTg) rfl (fun p e s m args below meth c s₁ B hml hP => ?_)
  obtain ⟨ha, hE, hT⟩ := hP
  subst ha
  have hts0 := atoms_spec (ws := Cond.code yJ1_charAt_3b067 cJ1_charAt_3b067 2 (some .char) :: LTg) B.pre
  have hts : ∀ w ∈ LTg, w.before _ s = true := fun w hw => hts0 w (List.mem_cons_of_mem _ hw)
  have hx := B.exec
  have hb := B.bytes
  have hown := findClass_of_methodNamed B.named
  have hrt := B.returns
  have hlk := B.notSynchronized
  have hl := lv_entry [.ref v, .int (nI j)] (n := 2) (Nat.le_refl _)
  rw [lg_entry_eq]
  generalize (lg_sl [.ref v, .int (nI j)] ++ List.replicate (2 - (lg_sl [.ref v, .int (nI j)]).length) Slot.unset).toArray = S at hl ⊢
  obtain ⟨t1, t2⟩ := txT_all k k2
  have hS : va_S (gAx G) s.heap s.heap [] := va_S.rf
  refine lv_iload_n hx hb (k := 1) (by decide +kernel) rfl (lv_at hl 1 rfl) ?_
  refine lv_aload_n hx hb (k := 0) (by decide +kernel) rfl (lv_at hl 0 rfl) ?_
  refine va_tlen hx hb hT hS (v := nI (txT k).length) rfl (by decide +kernel) ?_
  refine va_callv (A0 := gAx G) (va_runS (As := [.int (nI j), .int (nI (txT k).length)]) (rest := []) ⟨hx, hb, hml, hown, hts⟩ (m_chk1 (nI j) (nI (txT k).length) (nI_pos' (by omega)) (nI_lt hj t1)) (va_cwS 2 hts (t_wsS t_w1.1 t_w1.2.1 t_w1.2.2.1 t_w1.2.2.2) rfl rfl rfl (by decide +kernel) ⟨by decide, by decide⟩) ⟨tP_blind, tP_at hE hS⟩ rfl rfl hl.1 rfl (lv_room (Nat.le_of_ble_eq_true rfl)) (show decode cJ1_charAt_3b067 3 = .ok (.invokestatic 9, 3) by decide +kernel) ⟨Nat.le_refl _, Nat.le_refl _⟩) hS (fun q _ h => h.elim) (fun q h => h) (fun u t H1 locs1 ht hvm hw hB hz hk hS1 => ?_)
  refine lv_aload_n hx hb (k := 0) (by decide +kernel) rfl (lv_at hl 0 rfl) ?_
  refine lv_iload_n hx hb (k := 1) (by decide +kernel) rfl (lv_at hl 1 rfl) ?_
  refine va_tb hx hb hT hS1 (vp_in_nI hj t1) (v := .int ((txT k).getD j 0)) (by rw [nI_clamp (by omega)]) (by decide +kernel) ?_
  refine lv_sipush (n := 255) (v := 255) hx hb (by decide +kernel) (by decide) ?_
  refine lv_iand hx hb (by decide +kernel) ?_
  have hm : (txT k).getD j 0 ∈ txT k := by rw [List.getD_eq_getElem?_getD, List.getElem?_eq_getElem hj]; exact List.getElem_mem hj
  obtain ⟨b1, b2⟩ := t2 _ hm
  refine lv_i2c (v := (txT k).getD j 0) hx hb (by decide +kernel) b1 ?_
  exact W.zret hx hb hrt b2 (fun t ht hW => ⟨⟨_, (), rfl, rfl, trivial⟩, by rw [ht]; exact hz, fun q h1 h2 => by rw [ht]; exact hk q h1 (fun h => h)⟩) hS1.2.2 (by decide +kernel) hlk
theorem m_length (k : Nat) (k1 : 1 ≤ k) (k2 : k ≤ 77) : Met l yJ0_length_8abf5 (.code yJ0_length_8abf5 cJ0_length_8abf5 1 (some .int) :: LTg) (tRm 2) (tP G [.ref (gS G k)]) (tQ (nI (txT k).length)) 0 0 (gAx G) := by
  refine t_start (by decide) (Nat.le_refl _) (fun p e s m args below meth c S hx hb hml hown hts hE hrt hlk hl => ?_)
  have hS : va_S (gAx G) s.heap s.heap [] := va_S.rf
  obtain ⟨v, s1, s2, s3, s4⟩ := hE.2.2.2.2.2.2.2.1.1 k k1 k2
  refine lv_aload_n hx hb (k := 0) (by decide +kernel) rfl (lv_at hl 0 rfl) ?_
  refine vk_getf hx hb (index := 9) s3 hS hown (hts _ t_val) (fun _ h => h) (by decide +kernel) ?_
  refine va_tlen hx hb s4 hS (v := nI (txT k).length) rfl (by decide +kernel) ?_
  refine lv_aload_n hx hb (k := 0) (by decide +kernel) rfl (lv_at hl 0 rfl) ?_
  obtain ⟨cell, r1, r2, r3, -⟩ := s1
  refine va_calli (A0 := gAx G) (va_runV (As := []) (rest := [.int (nI (txT k).length)]) ⟨hx, hb, hml, hown, hts⟩ (m_coder k k1 k2) (cwV 0 hts (t_wsV t_w4.1 t_w4.2.1 t_w4.2.2.1 t_w1.2.2.1 t_w4.2.2.2) rfl rfl rfl (by decide +kernel) ⟨by decide, by decide⟩) ⟨tP_blind, ⟨cell, r1, r2, r3⟩, tP_at hE hS⟩ rfl rfl hl.1 rfl (lv_room (Nat.le_of_ble_eq_true rfl)) (show decode cJ0_length_8abf5 6 = .ok (.invokevirtual 335, 3) by decide +kernel) ⟨Nat.le_refl _, Nat.le_refl _⟩) hS (fun q _ h => h.elim) (fun q h => h) (fun r u t H1 locs1 ht hvm hw hB hz hk hS1 => ?_)
  subst hw
  refine lv_ishr hx hb (by decide +kernel) ?_
  have e0 : nI (txT k).length >>> ((0 : Int32) &&& 31) = nI (txT k).length := by
    have : (0 : Int32) &&& 31 = 0 := by decide
    rw [this]
    exact Int32.shiftRight_zero
  rw [e0]
  exact W.iret hx hb hrt (fun t ht hW => ⟨⟨_, (), rfl, rfl, trivial⟩, by rw [ht]; exact hz, fun q h1 h2 => by rw [ht]; exact hk q h1 (fun h => h)⟩) hS1.2.2 (by decide +kernel) hlk
theorem m_charAt (k : Nat) (k1 : 1 ≤ k) (k2 : k ≤ 77) (j : Nat) (hj : j < (txT k).length) : Met l yJ0_charAt_5068e (.code yJ0_charAt_5068e cJ0_charAt_5068e 2 (some .char) :: LTg) (tRm 4) (tP G [.ref (gS G k), .int (nI j)]) (tQ ((txT k).getD j 0)) 0 0 (gAx G) := by
  refine t_start (by decide) (Nat.le_refl _) (fun p e s m args below meth c S hx hb hml hown hts hE hrt hlk hl => ?_)
  have hS : va_S (gAx G) s.heap s.heap [] := va_S.rf
  obtain ⟨v, s1, s2, s3, s4⟩ := hE.2.2.2.2.2.2.2.1.1 k k1 k2
  obtain ⟨t1, t2⟩ := txT_all k k2
  have hm : (txT k).getD j 0 ∈ txT k := by rw [List.getD_eq_getElem?_getD, List.getElem?_eq_getElem hj]; exact List.getElem_mem hj
  obtain ⟨b1, b2⟩ := t2 _ hm
  refine lv_aload_n hx hb (k := 0) (by decide +kernel) rfl (lv_at hl 0 rfl) ?_
  obtain ⟨cell, r1, r2, r3, -⟩ := s1
  refine va_calli (A0 := gAx G) (va_runV (As := []) (rest := []) ⟨hx, hb, hml, hown, hts⟩ (m_latin k k1 k2) (cwV 0 hts (t_wsV t_w3.1 t_w3.2.1 t_w3.2.2.1 t_w1.2.2.1 t_w3.2.2.2) rfl rfl rfl (by decide +kernel) ⟨by decide, by decide⟩) ⟨tP_blind, ⟨cell, r1, r2, r3⟩, tP_at hE hS⟩ rfl rfl hl.1 rfl (lv_room (Nat.le_of_ble_eq_true rfl)) (show decode cJ0_charAt_5068e 1 = .ok (.invokevirtual 492, 3) by decide +kernel) ⟨Nat.le_refl _, Nat.le_refl _⟩) hS (fun q _ h => h.elim) (fun q h => h) (fun r u t H1 locs1 ht hvm hw hB hz hk hS1 => ?_)
  subst hw
  refine lv_if_eq (off := 12) (tgt := 16) hx hb (by decide +kernel) (by decide) (fun hc => absurd hc (by decide)) (fun _ => ?_)
  refine lv_aload_n hx hb (k := 0) (by decide +kernel) rfl (lv_at hl 0 rfl) ?_
  refine vk_getf hx hb (index := 9) s3 hS1 hown (hts _ t_val) (fun _ h => h) (by decide +kernel) ?_
  refine lv_iload_n hx hb (k := 1) (by decide +kernel) rfl (lv_at hl 1 rfl) ?_
  refine va_calli (A0 := gAx G) (va_runS (As := [.ref v, .int (nI j)]) (rest := []) ⟨hx, hb, hml, hown, hts⟩ (m_lat v k k2 j hj) (va_cwS 2 hts (t_wsS t_w2.1 t_w2.2.1 t_w2.2.2.1 t_w2.2.2.2) rfl rfl rfl (by decide +kernel) ⟨by decide, by decide⟩) ⟨tPvx_blind, tPvx_at hE s4 hS1⟩ rfl rfl hl.1 rfl (lv_room (Nat.le_of_ble_eq_true rfl)) (show decode cJ0_charAt_5068e 12 = .ok (.invokestatic 495, 3) by decide +kernel) ⟨Nat.le_refl _, Nat.le_refl _⟩) hS1 (fun q _ h => h.elim) (fun q h => h) (fun r u t H2 locs2 ht hvm hw hB hz2 hk2 hS2 => ?_)
  subst hw
  exact W.zret hx hb hrt b2 (fun t ht hW => ⟨⟨_, (), rfl, rfl, trivial⟩, by rw [ht]; exact Nat.le_trans hz hz2, fun q h1 h2 => by rw [ht, hk2 q (Nat.lt_of_lt_of_le h1 hz) (fun h => h)]; exact hk q h1 (fun h => h)⟩) hS2.2.2 (by decide +kernel) hlk
end TXA
