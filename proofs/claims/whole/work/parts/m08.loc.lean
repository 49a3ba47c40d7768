/-! THE LOCALS AND THE INVARIANT OF A WALK -/
theorem lget_some {ls : List Value} {i : Nat} {v : Value} (h : lget ls i = v) (hk : known v = true) : ls[i]? = some v := by
  unfold lget at h
  rw [List.getD_eq_getElem?_getD] at h
  cases hx : ls[i]? with
  | none =>
    rw [hx] at h
    subst h
    cases hk
  | some w =>
    rw [hx] at h
    rw [← h]
    rfl
theorem rz_int {ad : Nat → Nat} {x : Int32} : rz ad (.int x) = .int x := rfl
theorem rz_long {ad : Nat → Nat} {x : Int64} : rz ad (.long x) = .long x := rfl
theorem rz_ref {ad : Nat → Nat} {x : Nat} : rz ad (.ref x) = va_rf (rfo ad x) := rfl
theorem rz_ref1 {ad : Nat → Nat} {x : Nat} (h : x ≠ 0) : rz ad (.ref x) = .ref (ad x) := by
  show va_rf (rfo ad x) = _
  unfold rfo
  rw [if_neg h]
  rfl
theorem rz_cat {ad : Nat → Nat} {n : Nat} {v : Value} (h : vok n v) (hk : known v = true) (hn : notLong v = true) : (rz ad v).category = 1 := by
  cases v with
  | ref r =>
    show (va_rf (rfo ad r)).category = 1
    cases rfo ad r <;> rfl
  | int x => rfl
  | long x => cases hn
  | retAddr x => cases hk
  | _ => cases h
theorem catS_map {ad : Nat → Nat} {n : Nat} : ∀ (st : List Value), (∀ v ∈ st, vok n v ∧ known v = true) → ((st.map (rz ad)).map fun v => v.category).sum = catS st
  | [], _ => rfl
  | v :: st, h => by
    have ih := catS_map (ad := ad) st fun w hw => h w (List.mem_cons_of_mem _ hw)
    obtain ⟨h1, h2⟩ := h v List.mem_cons_self
    rw [List.map_cons, List.map_cons, List.sum_cons, ih]
    cases v with
    | long x => rfl
    | int x => rfl
    | ref r =>
      show (va_rf (rfo ad r)).category + _ = 1 + _
      cases rfo ad r <;> rfl
    | retAddr x => cases h2
    | _ => cases h1
def locL (ad : Nat → Nat) (ls : List Value) : List (Nat × Value) := ls.zipIdx.filterMap fun q => if known q.1 = true then some (q.2, rz ad q.1) else none
theorem locL_mem {ad : Nat → Nat} {ls : List Value} {i : Nat} {w : Value} : (i, w) ∈ locL ad ls ↔ ∃ v, ls[i]? = some v ∧ known v = true ∧ w = rz ad v := by
  unfold locL
  rw [List.mem_filterMap]
  constructor
  · rintro ⟨⟨v, j⟩, hm, hq⟩
    rw [List.mem_zipIdx_iff_getElem?] at hm
    by_cases hk : known v = true
    · simp only [hk, if_true, Option.some.injEq, Prod.mk.injEq] at hq
      obtain ⟨rfl, rfl⟩ := hq
      exact ⟨v, hm, hk, rfl⟩
    · simp [hk] at hq
  · rintro ⟨v, h1, h2, rfl⟩
    exact ⟨(v, i), List.mem_zipIdx_iff_getElem?.mpr h1, by simp [h2]⟩
theorem lvR.has {ad : Nat → Nat} {n : Nat} {S : Array Slot} {ls : List Value} (h : lvR ad n S ls) : lv_has S ls.length (locL ad ls) := by
  refine ⟨h.1, h.2.1, fun q hq => ?_⟩
  obtain ⟨i, w⟩ := q
  obtain ⟨v, h1, h2, rfl⟩ := locL_mem.mp hq
  exact (h.2.2 i v h1).2 h2
theorem lvR.get {ad : Nat → Nat} {n : Nat} {S : Array Slot} {ls : List Value} (h : lvR ad n S ls) {i : Nat} {v : Value} (hv : lget ls i = v) (hk : known v = true) : S[i]? = some (Slot.val (rz ad v)) ∧ vok n v := by
  have h1 := h.2.2 i v (lget_some hv hk)
  exact ⟨h1.2 hk, h1.1⟩
theorem lvR.set {ad : Nat → Nat} {n : Nat} {S S' : Array Slot} {ls : List Value} (h : lvR ad n S ls) {i : Nat} {v : Value} (hi : okst ls i = true) (hv : vok n v)
    (h' : lv_has S' ls.length ((i, rz ad v) :: (locL ad ls).filter (fun q => !(q.1 == i) && !(q.1 + 1 == i && q.2.category == 2)))) : lvR ad n S' (lset ls i v) := by
  unfold okst at hi
  rw [Bool.and_eq_true] at hi
  obtain ⟨h1, h2⟩ := hi
  have h1 := of_decide_eq_true h1
  refine ⟨by rw [h'.1]; simp [lset], h'.2.1, fun j u hu => ?_⟩
  unfold lset at hu
  by_cases hj : j = i
  · subst hj
    rw [List.getElem?_set_self h1] at hu
    cases hu
    exact ⟨hv, fun _ => h'.2.2 _ List.mem_cons_self⟩
  · rw [List.getElem?_set_ne (Ne.symm hj)] at hu
    obtain ⟨g1, g2⟩ := h.2.2 j u hu
    refine ⟨g1, fun hk => h'.2.2 (j, rz ad u) (List.mem_cons_of_mem _ (List.mem_filter.mpr ⟨locL_mem.mpr ⟨u, hu, hk, rfl⟩, ?_⟩))⟩
    simp only [Bool.and_eq_true, Bool.not_eq_true', beq_eq_false_iff_ne, ne_eq, Bool.and_eq_false_iff]
    refine ⟨hj, ?_⟩
    by_cases hj2 : j + 1 = i
    · right
      subst hj2
      have h3 : notLong (lget ls j) = true := h2
      have h4 : lget ls j = u := by unfold lget; rw [List.getD_eq_getElem?_getD, hu]; rfl
      rw [h4] at h3
      rw [rz_cat g1 hk h3]
      decide
    · left
      exact hj2
theorem lvR.set2 {ad : Nat → Nat} {n : Nat} {S S' : Array Slot} {ls : List Value} (h : lvR ad n S ls) {i : Nat} {x : Int64} (hi : okst ls i = true) (hn : i + 1 < ls.length)
    (h' : lv_has S' ls.length ((i, Value.long x) :: (locL ad ls).filter (fun q => !(q.1 == i) && (!(q.1 == i + 1) && !(q.1 + 1 == i && q.2.category == 2))))) : lvR ad n S' (lset (lset ls i (.long x)) (i + 1) (.retAddr 0)) := by
  unfold okst at hi
  rw [Bool.and_eq_true] at hi
  obtain ⟨h1, h2⟩ := hi
  have h1 := of_decide_eq_true h1
  refine ⟨by rw [h'.1]; simp [lset], h'.2.1, fun j u hu => ?_⟩
  unfold lset at hu
  by_cases hj1 : j = i + 1
  · subst hj1
    rw [List.getElem?_set_self (by rw [List.length_set]; exact hn)] at hu
    cases hu
    exact ⟨trivial, fun hk => by cases hk⟩
  · rw [List.getElem?_set_ne (Ne.symm hj1)] at hu
    by_cases hj : j = i
    · subst hj
      rw [List.getElem?_set_self h1] at hu
      cases hu
      exact ⟨trivial, fun _ => h'.2.2 _ List.mem_cons_self⟩
    · rw [List.getElem?_set_ne (Ne.symm hj)] at hu
      obtain ⟨g1, g2⟩ := h.2.2 j u hu
      refine ⟨g1, fun hk => h'.2.2 (j, rz ad u) (List.mem_cons_of_mem _ (List.mem_filter.mpr ⟨locL_mem.mpr ⟨u, hu, hk, rfl⟩, ?_⟩))⟩
      simp only [Bool.and_eq_true, Bool.not_eq_true', beq_eq_false_iff_ne, ne_eq, Bool.and_eq_false_iff]
      refine ⟨hj, hj1, ?_⟩
      by_cases hj2 : j + 1 = i
      · right
        subst hj2
        have h3 : notLong (lget ls j) = true := h2
        have h4 : lget ls j = u := by unfold lget; rw [List.getD_eq_getElem?_getD, hu]; rfl
        rw [h4] at h3
        rw [rz_cat g1 hk h3]
        decide
      · left
        exact hj2
/-- the same locals, read by other addresses for what is new -/
theorem lvR.up {ad ad' : Nat → Nat} {n n' : Nat} {S : Array Slot} {ls : List Value} (h : lvR ad n S ls) (hn : n ≤ n') (ha : ∀ k, k < n → ad' k = ad k) : lvR ad' n' S ls := by
  refine ⟨h.1, h.2.1, fun i v hv => ?_⟩
  obtain ⟨h1, h2⟩ := h.2.2 i v hv
  cases v with
  | ref r =>
    have hr : r < n := h1
    refine ⟨Nat.lt_of_lt_of_le hr hn, fun hk => ?_⟩
    rw [h2 hk]
    show some (Slot.val (va_rf (rfo ad r))) = some (Slot.val (va_rf (rfo ad' r)))
    unfold rfo
    rw [ha r hr]
  | int x => exact ⟨trivial, h2⟩
  | long x => exact ⟨trivial, h2⟩
  | retAddr x => exact ⟨trivial, h2⟩
  | _ => cases h1
theorem rz_up {ad ad' : Nat → Nat} {n : Nat} {v : Value} (h : vok n v) (ha : ∀ k, k < n → ad' k = ad k) : rz ad' v = rz ad v := by
  cases v with
  | ref r =>
    have hr : r < n := h
    show va_rf (rfo ad' r) = va_rf (rfo ad r)
    unfold rfo
    rw [ha r hr]
  | _ => rfl
theorem vok_up {n n' : Nat} {v : Value} (h : vok n v) (hn : n ≤ n') : vok n' v := by
  cases v with
  | ref r => exact Nat.lt_of_lt_of_le h hn
  | _ => exact h
theorem map_up {ad ad' : Nat → Nat} {n : Nat} {st : List Value} (h : ∀ v ∈ st, vok n v ∧ known v = true) (ha : ∀ k, k < n → ad' k = ad k) : st.map (rz ad') = st.map (rz ad) := List.map_congr_left fun v hv => rz_up (h v hv).1 ha
/-- a class's row of the tables -/
def ClsOK (ci : Nat) (r : vw_C) : Prop := (∃ ty : Nat → FieldType, (∀ k, k < r.2.2 → parseFieldDescriptor (r.2.1 k).2.2.1 = some (ty k)) ∧ ∀ k, k < r.2.2 → defaultValue (ty k) = if isRf ci k = true then .null else .int 0) ∧
  (∀ a, a < r.2.2 → ∀ b, b < r.2.2 → a ≠ b → (r.2.1 a).2.1 ≠ (r.2.1 b).2.1) ∧ (∀ w ∈ u_ws r.1 r.2.1 r.2.2, w ∈ lw_tbl ∧ goodWord w = true) ∧ (Cond.instantiable r.1 r.2.2 ∈ lw_tbl ∧ goodWord (Cond.instantiable r.1 r.2.2) = true) ∧ Cond.initialized r.1 ∈ lw_tbl ∧ goodWord (Cond.initialized r.1) = true
theorem cls_0 : ClsOK 0 (RX0, TX0, 6) := ⟨⟨tyX0, tyX0_ok, by decide +kernel⟩, nmX0, by decide +kernel, by decide +kernel, by decide +kernel⟩
theorem cls_1 : ClsOK 1 (RX1, TX1, 1) := ⟨⟨tyX1, tyX1_ok, by decide +kernel⟩, nmX1, by decide +kernel, by decide +kernel, by decide +kernel⟩
theorem cls_2 : ClsOK 2 (RX2, TX2, 2) := ⟨⟨tyX2, tyX2_ok, by decide +kernel⟩, nmX2, by decide +kernel, by decide +kernel, by decide +kernel⟩
theorem cls_3 : ClsOK 3 (RX3, TX3, 3) := ⟨⟨tyX3, tyX3_ok, by decide +kernel⟩, nmX3, by decide +kernel, by decide +kernel, by decide +kernel⟩
theorem cls_4 : ClsOK 4 (RX4, TX4, 5) := ⟨⟨tyX4, tyX4_ok, by decide +kernel⟩, nmX4, by decide +kernel, by decide +kernel, by decide +kernel⟩
theorem cls_5 : ClsOK 5 (RX5, TX5, 11) := ⟨⟨tyX5, tyX5_ok, by decide +kernel⟩, nmX5, by decide +kernel, by decide +kernel, by decide +kernel⟩
theorem cls_6 : ClsOK 6 (RX6, TX6, 3) := ⟨⟨tyX6, tyX6_ok, by decide +kernel⟩, nmX6, by decide +kernel, by decide +kernel, by decide +kernel⟩
theorem cls_7 : ClsOK 7 (RX7, TX7, 7) := ⟨⟨tyX7, tyX7_ok, by decide +kernel⟩, nmX7, by decide +kernel, by decide +kernel, by decide +kernel⟩
theorem cls_8 : ClsOK 8 (RX8, TX8, 3) := ⟨⟨tyX8, tyX8_ok, by decide +kernel⟩, nmX8, by decide +kernel, by decide +kernel, by decide +kernel⟩
theorem cls_9 : ClsOK 9 (RX9, TX9, 19) := ⟨⟨tyX9, tyX9_ok, by decide +kernel⟩, nmX9, by decide +kernel, by decide +kernel, by decide +kernel⟩
theorem cls_10 : ClsOK 10 (RX10, TX10, 7) := ⟨⟨tyX10, tyX10_ok, by decide +kernel⟩, nmX10, by decide +kernel, by decide +kernel, by decide +kernel⟩
theorem cls_11 : ClsOK 11 (RX11, TX11, 13) := ⟨⟨tyX11, tyX11_ok, by decide +kernel⟩, nmX11, by decide +kernel, by decide +kernel, by decide +kernel⟩
theorem cls_12 : ClsOK 12 (RX12, TX12, 32) := ⟨⟨tyX12, tyX12_ok, by decide +kernel⟩, nmX12, by decide +kernel, by decide +kernel, by decide +kernel⟩
theorem cls_at : ∀ (ci : Nat) (r : vw_C), vwCl[ci]? = some r → ClsOK ci r := by
  intro ci r h
  match ci, h with
  | 0, h => cases h; exact cls_0
  | 1, h => cases h; exact cls_1
  | 2, h => cases h; exact cls_2
  | 3, h => cases h; exact cls_3
  | 4, h => cases h; exact cls_4
  | 5, h => cases h; exact cls_5
  | 6, h => cases h; exact cls_6
  | 7, h => cases h; exact cls_7
  | 8, h => cases h; exact cls_8
  | 9, h => cases h; exact cls_9
  | 10, h => cases h; exact cls_10
  | 11, h => cases h; exact cls_11
  | 12, h => cases h; exact cls_12
  | n + 13, h => simp [vwCl] at h
