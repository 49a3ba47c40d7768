/-! AT THE LAW'S ENTRY: what holds there beside the heap, out of the statement's own words -/
def flG : List Cond := flatC (Jvm.Cond.and given_1 narrow_1)
def stPx : List Nat := [96, 105, 113, 122, 132, 140, 148, 155, 165, 174, 184, 193, 203, 236, 258, 265, 274, 283, 291, 301, 311, 317, 324, 331, 339, 346, 355, 363, 373, 381, 390, 400, 406, 438, 464, 493, 518, 546, 573, 603, 623, 652, 691, 729, 765, 809, 837, 864, 887, 925, 933, 943, 953, 962, 973, 984, 991, 999, 1008, 1016, 1026, 1035, 1046, 1055, 1065, 1076, 1084, 1091, 1101, 1110, 1120, 1131, 1140, 1151, 1161, 1172, 1182]
def txQx (q : String × Nat × String) : List Int32 := q.2.2.toList.map fun c => Int32.ofNat c.toNat
def tmSx (q : String × Nat × String) : Term := .string q.1 q.2.1
def vlSx (q : String × Nat × String) : Term := .field (tmSx q) "java/lang/String" "value" "[B"
def stWx (q : String × Nat × String) : List Cond := [.exactly (tmSx q) "java/lang/String", .eq (.field (tmSx q) "java/lang/String" "coder" "B") (.int 0), .arrayOf (vlSx q) .byte, .eq (.length (vlSx q)) (.int (Int32.ofNat (txQx q).length))] ++ (List.range (txQx q).length).map fun j => .eq (.elem (vlSx q) (.int (Int32.ofNat j))) (.int ((txQx q).getD j 0))
def stCx (k : Nat) : Bool := match strT[k]? with
  | some q => decide ((flG.drop (stPx.getD k 0)).take (stWx q).length = stWx q)
  | none => true
theorem st_all : ∀ k : _root_.Fin 77, stCx k.val = true := by decide +kernel
theorem st_ref : ∀ q ∈ strT, Cond.stringRef q.1 q.2.1 q.2.2 ∈ lw_tbl := by decide +kernel
theorem st_sz : ∀ q ∈ strT, (txQx q).length < 2 ^ 31 := by decide +kernel
theorem st_len : strT.length = 77 := by decide +kernel
theorem st_in {k : Nat} {q : String × Nat × String} (h : strT[k]? = some q) : ∀ w ∈ stWx q, w ∈ flG := by
  have hk := (List.getElem?_eq_some_iff.mp h).1
  rw [st_len] at hk
  have g := st_all ⟨k, hk⟩
  unfold stCx at g
  dsimp only at g
  rw [h] at g
  have g' := of_decide_eq_true g
  intro w hw
  rw [← g'] at hw
  exact (List.drop_sublist _ _).subset ((List.take_sublist _ _).subset hw)
theorem cl_in : ∀ q ∈ vwCl, (∀ w ∈ u_ws q.1 q.2.1 q.2.2, w ∈ lw_tbl) ∧ Cond.instantiable q.1 q.2.2 ∈ lw_tbl := by decide +kernel
theorem nc_in : ∀ a : _root_.Fin 5, ∀ b : _root_.Fin 5, a ≠ b → Cond.not (.castable (Enm (a.val + 1)) (Enm (b.val + 1))) ∈ flG := by decide +kernel
theorem fx_in : (Cond.isRef (.static Bundle.tN "UNASSIGNED_STACK" Bundle.steD) ∈ flG ∧ Cond.isRef (.static Bundle.tN "SUPPRESSED_SENTINEL" Bundle.listD) ∈ flG) ∧ (Cond.eq (.static "java/lang/String" "COMPACT_STRINGS" "Z") (.int 1) ∈ flG ∧ Cond.isRef (.static "jdk/internal/util/Preconditions" "SIOOBE_FORMATTER" "Ljava/util/function/BiFunction;") ∈ flG) := by decide +kernel
theorem fx_tb : ((Cond.laysStatic Bundle.tN "UNASSIGNED_STACK" Bundle.steD ∈ lw_tbl ∧ Cond.laysStatic Bundle.tN "SUPPRESSED_SENTINEL" Bundle.listD ∈ lw_tbl) ∧ Cond.initialized Bundle.tN ∈ lw_tbl) ∧ (Cond.laysStatic "java/lang/String" "COMPACT_STRINGS" "Z" ∈ lw_tbl ∧ Cond.initialized "java/lang/String" ∈ lw_tbl) ∧ (Cond.laysStatic "jdk/internal/util/Preconditions" "SIOOBE_FORMATTER" "Ljava/util/function/BiFunction;" ∈ lw_tbl ∧ Cond.initialized "jdk/internal/util/Preconditions" ∈ lw_tbl) := by decide +kernel
theorem ar_tb : (Cond.arrayClass .int ∈ lw_tbl ∧ Cond.arrayClass .long ∈ lw_tbl ∧ Cond.arrayClass .boolean ∈ lw_tbl) ∧ Cond.arrayOver (.object RX9) ∈ lw_tbl := by decide +kernel
section BGE
variable {s : State} {b L : Nat} {xs : Nat → Int32}
theorem ngw_of {w : Cond} {args : Array Value} (hg : ngw w = true) (h : w.before args s = true) : w.before #[] s = true := by
  cases w <;> first
    | cases hg; done
    | exact va_Nw.of rfl h
theorem sA_of {args : Array Value} {q : String × Nat × String} {A : Nat → Prop} (hw : ∀ w ∈ stWx q, w.before args s = true) (hs : (Cond.stringRef q.1 q.2.1 q.2.2).before args s = true) (hN : (txQx q).length < 2 ^ 31) (hA : ∀ a : Nat, a < s.heap.size → ¬ A a) :
    ∃ a v : Nat, vk_R q.1 q.2.1 q.2.2 a s ∧ va_O "java/lang/String" a A s s.heap ∧ va_OF "java/lang/String" "coder" "B" (.int 0) a A s s.heap ∧ va_OF "java/lang/String" "value" "[B" (.ref v) a A s s.heap ∧ va_T .byte v (txQx q).length (fun j => .int ((txQx q).getD j 0)) A s s.heap := by
  have e1 := hw (.exactly (tmSx q) "java/lang/String") (by simp [stWx])
  have e2 := hw (.eq (.field (tmSx q) "java/lang/String" "coder" "B") (.int 0)) (by simp [stWx])
  have e3 := hw (.arrayOf (vlSx q) .byte) (by simp [stWx])
  have e4 := hw (.eq (.length (vlSx q)) (.int (Int32.ofNat (txQx q).length))) (by simp [stWx])
  have e5 : ∀ j : Nat, j < (txQx q).length → (Cond.eq (.elem (vlSx q) (.int (Int32.ofNat j))) (.int ((txQx q).getD j 0))).before args s = true := fun j hj => hw _ (List.mem_append_right _ (List.mem_map.mpr ⟨j, List.mem_range.mpr hj, rfl⟩))
  obtain ⟨a, c, cA, kA, q1, q2, q3, q4, q5, q6, -⟩ := Cond.exactly_spec (args := args) (first := s) (o := none) (s := s) (idx := []) (t := tmSx q) (cls := "java/lang/String") e1
  obtain ⟨t, ht, hT⟩ := va_Tof (f := fun j => .int ((txQx q).getD j 0)) (A := A) hN e3 (va_eqt e4) (fun j hj => va_eqt (e5 j hj)) hA
  exact ⟨a, t, vk_R.of hs q1, ⟨cA, q3, q5, by rw [q6]; exact q2, hA a (Array.getElem?_eq_some_iff.mp q3).1⟩, vk_OFof q1 (va_eqt e2) hA, vk_OFof q1 ht hA, hT⟩
/-- what holds at the entry -/
theorem env_0 (hts : ∀ w ∈ lw_tbl, w.before #[Value.ref b] s = true) (hX : va_X b L xs s s.heap) (hbl : b < s.heap.size) (hgv : (Jvm.Cond.and given_1 narrow_1).before #[Value.ref b] s = true) :
    ∃ G : GP, EnvOK G s ∧ gAx G = (fun q : Nat => s.heap.size ≤ q) ∧ gS G 78 = b ∧ gL G = L ∧ gX G = xs := by
  have hfl : ∀ w ∈ flG, w.before #[Value.ref b] s = true := flat_of_before _ hgv
  obtain ⟨A, hAe⟩ : ∃ A : Nat → Prop, A = fun q : Nat => s.heap.size ≤ q := ⟨_, rfl⟩
  have hA : ∀ a : Nat, a < s.heap.size → ¬ A a := fun a h => by rw [hAe]; exact Nat.not_le.mpr h
  -- the classes
  have h0 : ∀ c : Nat, ∃ p : ClassId × (Nat → Nat), ∀ q, vwCl[c]? = some q → u_Kn s q.1 q.2.1 q.2.2 p.1 p.2 := by
    intro c
    cases h : vwCl[c]? with
    | none => exact ⟨(0, fun _ => 0), fun q e => nomatch e⟩
    | some q =>
      obtain ⟨h1, h2⟩ := cl_in q (List.mem_of_getElem? h)
      obtain ⟨cC, iS, hK⟩ := u_known (C := q.1) (T := q.2.1) (N := q.2.2) (n := q.2.2) hts h1 (hts _ h2)
      exact ⟨(cC, iS), fun q' e => by cases e; exact hK⟩
  obtain ⟨D, hD⟩ := Classical.axiomOfChoice h0
  -- the strings
  have h1 : ∀ k : Nat, ∃ p : Nat × Nat, ∀ q, strT[k]? = some q → vk_R q.1 q.2.1 q.2.2 p.1 s ∧ va_O "java/lang/String" p.1 A s s.heap ∧ va_OF "java/lang/String" "coder" "B" (.int 0) p.1 A s s.heap ∧ va_OF "java/lang/String" "value" "[B" (.ref p.2) p.1 A s s.heap ∧ va_T .byte p.2 (txQx q).length (fun j => .int ((txQx q).getD j 0)) A s s.heap := by
    intro k
    cases h : strT[k]? with
    | none => exact ⟨(0, 0), fun q e => nomatch e⟩
    | some q =>
      have hm := List.mem_of_getElem? h
      obtain ⟨a, v, g⟩ := sA_of (A := A) (fun w hw => hfl w (st_in h w hw)) (hts _ (st_ref q hm)) (st_sz q hm) hA
      exact ⟨(a, v), fun q' e => by cases e; exact g⟩
  obtain ⟨E, hE⟩ := Classical.axiomOfChoice h1
  -- the arrays' classes
  obtain ⟨⟨t1, t2, t3⟩, t4⟩ := ar_tb
  obtain ⟨c1, k1, p1, a1, a2, a3⟩ := Cond.arrayClass_spec (args := #[Value.ref b]) (first := s) (o := none) (s := s) (idx := []) (hts _ t1)
  obtain ⟨c2, k2, p2, b1, b2, b3⟩ := Cond.arrayClass_spec (args := #[Value.ref b]) (first := s) (o := none) (s := s) (idx := []) (hts _ t2)
  obtain ⟨c3, k3, p3, d1, d2, d3⟩ := Cond.arrayClass_spec (args := #[Value.ref b]) (first := s) (o := none) (s := s) (idx := []) (hts _ t3)
  obtain ⟨p4, c4, k4, g1, g2, g3, g4, g5⟩ := Cond.arrayOver_spec (args := #[Value.ref b]) (first := s) (o := none) (idx := []) (hts _ t4)
  obtain ⟨G, hG⟩ : ∃ G : GP, G = ((fun c => (D c).1, fun c => (D c).2), (c1, c2, c3, c4), A, (fun k => if k = 78 then b else (E (k - 1)).1), L, xs) := ⟨_, rfl⟩
  have eS : ∀ k, k ≠ 78 → gS G k = (E (k - 1)).1 := fun k h => by
    rw [hG]
    show (if k = 78 then b else (E (k - 1)).1) = (E (k - 1)).1
    exact if_neg h
  have e78 : gS G 78 = b := by
    rw [hG]
    show (if (78 : Nat) = 78 then b else (E (78 - 1)).1) = b
    exact if_pos rfl
  have eA : gAx G = A := by rw [hG]
  have eL : gL G = L := by rw [hG]
  have eX : gX G = xs := by rw [hG]
  have l1 := st_len
  obtain ⟨⟨f1, f2⟩, f3, f4⟩ := fx_in
  obtain ⟨⟨⟨u1, u2⟩, u3⟩, ⟨u4, u5⟩, u6, u7⟩ := fx_tb
  refine ⟨G, ⟨?_, ?_, ?_, ?_, ?_, ?_, ?_, ⟨?_, ?_, ?_⟩, ?_, ?_, ?_, ?_⟩, eA.trans hAe, e78, eL, eX⟩
  · rw [hG]
    refine ⟨fun c q hq => hD c q hq, fun k q hq => ?_⟩
    match k, hq with
    | 0, hq => cases hq; exact ⟨fun N z => ⟨(fun k h => by cases h), k1, a2, p1, a3⟩, a1⟩
    | 1, hq => cases hq; exact ⟨fun N z => ⟨(fun k h => by cases h), k2, b2, p2, b3⟩, b1⟩
    | 2, hq => cases hq; exact ⟨fun N z => ⟨(fun k h => by cases h), k3, d2, p3, d3⟩, d1⟩
    | 3, hq => cases hq; exact ⟨fun N z => ⟨(fun k h => by cases h), k4, g3, p4, g4⟩, k4, p4, g3, g4, g1, g5⟩
    | k + 4, hq => cases hq
  · exact fun w hw hg => ngw_of hg (hts w hw)
  · exact va_AO.of (hts _ t4)
  · intro k q hq
    have hk := (List.getElem?_eq_some_iff.mp hq).1
    rw [eS _ (by omega), Nat.add_sub_cancel]
    exact (hE k q hq).1
  · intro x y x1 x5 y1 y5 hne
    have h : Cond.not (.castable (Enm (x - 1 + 1)) (Enm (y - 1 + 1))) ∈ flG := nc_in ⟨x - 1, by omega⟩ ⟨y - 1, by omega⟩ (by
      intro e
      have e' : x - 1 = y - 1 := congrArg _root_.Fin.val e
      omega)
    rw [show x - 1 + 1 = x by omega, show y - 1 + 1 = y by omega] at h
    exact va_Nc.of (hfl _ h)
  · rw [eA]; exact vx_Zqof (hts _ u1) (hts _ u3) (hfl _ f1) hA
  · rw [eA]; exact vx_Zqof (hts _ u2) (hts _ u3) (hfl _ f2) hA
  · intro k k1' k2'
    have hk : k - 1 < strT.length := by omega
    have hq : strT[k - 1]? = some strT[k - 1] := List.getElem?_eq_getElem hk
    obtain ⟨-, z2, z3, z4, z5⟩ := hE (k - 1) _ hq
    have et : txT k = txQx strT[k - 1] := by unfold txT; rw [hq]; rfl
    unfold StrAt
    rw [eA, eS k (by omega), et]
    exact ⟨(E (k - 1)).2, z2, z3, z4, z5⟩
  · rw [eA]; exact va_Zof (hts _ u4) (hts _ u5) (va_eqt (hfl _ f3)) hA
  · rw [eA]; exact va_Zqof (hts _ u6) (hts _ u7) (hfl _ f4) hA
  · rw [e78, eL, eX]; exact hX
  · rw [e78]; exact hbl
  · rw [e78, eA]; exact hA b hbl
  · rw [eA, hAe]; exact fun q h => h
end BGE
