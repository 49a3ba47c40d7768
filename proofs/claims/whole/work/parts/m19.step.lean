/-! A STEP, whatever the instruction -/
section STP
variable {G : GP} {y d : Nat} {p : Program} {l : Launch} {e : Env} {R : Room} {s : State} {m : MethodId} {args : Array Value} {below : List Frame} {meth : Method} {c : Code} {Q : State → Prop} {n0 c0 w0 : Nat} {ad0 : Nat → Nat} {o : Option Value ⊕ Nat} {τ : HS} {M : Nat → DI} {wp : Nat → Nat}

theorem okC_rk {i k kd : Nat} {pc : Nat} {ins : Instr} {z n rk ci : Nat} {hs : List Nat} {c1 : Int32} (h : okC y M wp i k kd = true) (hM : M i = (pc, ins, z :: n :: rk :: ci :: hs, c1)) : rk ≤ 2 := by
  unfold okC at h
  rw [hM] at h
  dsimp only at h
  rw [Bool.and_eq_true, Bool.and_eq_true, Bool.and_eq_true] at h
  have h4 := h.1.1.2
  rcases rk with _ | _ | _ | rk
  · omega
  · omega
  · omega
  · cases h4
set_option maxHeartbeats 4000000 in
theorem step_sound {cl : CL} {k : KK} {i : Nat} {ls st : List Value} {σ : HS} (B : Bse G y (d + 1) p l R s m args meth c) (KS : KSt G y p l e R s m args below meth c Q n0 c0 w0 ad0 M o τ k) (F : Fin G y p l e R s m args below meth c Q n0 c0 w0 ad0 o τ) (C : CTR G l d cl) (hge : ∀ y a σ, oGe σ (cl y a σ)) (hkg : ∀ i ls st σ, oGe σ (k i ls st σ)) (hRc : hC τ ≤ c0 + R.cells) (hRs : hW τ ≤ w0 + R.slots) (hmo : ∀ z, z < 374 → MOK z) (hok : okI y M wp i = true)
    (HT : ∀ (pc n E : Nat) (c1 : Int32), M i = (pc, .new n, [E], c1) → stepG cl k (M i) i ls st σ = some (o, τ) → Go G y p l e R s m args below meth c Q n0 c0 w0 ad0 M i ls st σ)
    (HS : ∀ (pc n rk : Nat) (c1 : Int32), rk = 8 ∨ rk = 9 → M i = (pc, .invokevirtual n, [0, 0, rk, 0], c1) → stepG cl k (M i) i ls st σ = some (o, τ) → Go G y p l e R s m args below meth c Q n0 c0 w0 ad0 M i ls st σ)
    (h : stepG cl k (M i) i ls st σ = some (o, τ)) : Go G y p l e R s m args below meth c Q n0 c0 w0 ad0 M i ls st σ := by
  have h0 := h
  rcases hM : M i with ⟨pc, ins, ps, c1⟩
  rw [hM] at h
  cases ins
  case aload => exact sd_aload B KS hM hok h
  case aload_n => exact sd_aload_n B KS hM hok h
  case iload => exact sd_iload B KS hM hok h
  case iload_n => exact sd_iload_n B KS hM hok h
  case lload => exact sd_lload B KS hM hok h
  case lload_n => exact sd_lload_n B KS hM hok h
  case astore => exact sd_astore B KS hM hok h
  case astore_n => exact sd_astore_n B KS hM hok h
  case istore => exact sd_istore B KS hM hok h
  case istore_n => exact sd_istore_n B KS hM hok h
  case lstore => exact sd_lstore B KS hM hok h
  case iinc => exact sd_iinc B KS hM hok h
  case iconst => exact sd_iconst B KS hM hok h
  case bipush => exact sd_bipush B KS hM hok h
  case sipush => exact sd_sipush B KS hM hok h
  case ldc => exact sd_ldc B KS hM hok h
  case ldc_w => exact sd_ldc_w B KS hM hok h
  case lconst => exact sd_lconst B KS hM hok h
  case iadd => exact sd_iadd B KS hM hok h
  case isub => exact sd_isub B KS hM hok h
  case imul => exact sd_imul B KS hM hok h
  case iand => exact sd_iand B KS hM hok h
  case ior => exact sd_ior B KS hM hok h
  case ixor => exact sd_ixor B KS hM hok h
  case idiv => exact sd_idiv B KS hM hok h
  case irem => exact sd_irem B KS hM hok h
  case ineg => exact sd_ineg B KS hM hok h
  case ishl => exact sd_ishl B KS hM hok h
  case ishr => exact sd_ishr B KS hM hok h
  case iushr => exact sd_iushr B KS hM hok h
  case i2l => exact sd_i2l B KS hM hok h
  case ladd => exact sd_ladd B KS hM hok h
  case lmul => exact sd_lmul B KS hM hok h
  case lcmp => exact sd_lcmp B KS hM hok h
  case dup => exact sd_dup B KS hM hok h
  case dup2 => exact sd_dup2 B KS hM hok h
  case pop => exact sd_pop B KS hM hok h
  case goto => exact sd_goto B KS hM hok h
  case ifCond => exact sd_ifCond B KS hM hok h
  case if_icmp => exact sd_if_icmp B KS hM hok h
  case if_acmp => exact sd_if_acmp B KS hM hok h
  case ifnull => exact sd_ifnull B KS hM hok h
  case ifnonnull => exact sd_ifnonnull B KS hM hok h
  case tableswitch => exact sd_tableswitch B KS hM hok h
  case lookupswitch => exact sd_lookupswitch B KS hM hok h
  case arraylength => exact sd_arraylength B KS hM hok h
  case iaload => exact sd_iaload B KS hM hok h
  case baload => exact sd_baload B KS hM hok h
  case laload => exact sd_laload B KS hM hok h
  case aaload => exact sd_aaload B KS hM hok h
  case iastore => exact sd_iastore B KS hM hok h
  case bastore => exact sd_bastore B KS hM hok h
  case lastore => exact sd_lastore B KS hM hok h
  case aastore => exact sd_aastore B KS hM hok h
  case getfield => exact sd_getfield B KS hM hok h
  case putfield => exact sd_putfield B KS hM hok h
  case checkcast => exact sd_checkcast B KS hM hok h
  case ireturn => exact sd_ireturn B KS F hM hok h
  case areturn => exact sd_areturn B KS F hM hok h
  case return_ => exact sd_return_ B KS F hM hok h
  case anewarray => exact sd_anewarray B hRc hRs KS hM hok h
  case new n =>
    rcases ps with _ | ⟨a, _ | ⟨b, _ | ⟨b2, r⟩⟩⟩
    · cases h
    · exact HT pc n a c1 hM h0
    · exact sd_newobj B hRc hRs KS hM hok h
    · exfalso
      unfold okI at hok
      rw [hM] at hok
      cases hok
  case newarray t =>
    obtain ⟨a, r, e1, -⟩ := pcnd_inv h
    have hok2 := hok
    unfold okI at hok2
    rw [hM] at hok2
    dsimp only at hok2
    rw [Bool.and_eq_true] at hok2
    have h3 := hok2.2
    split at h3
    · rename_i e3 e4
      exact sd_newarr_int B hRc hRs KS hM hok h
    · exact sd_newarr_long B hRc hRs KS hM hok h
    · exact sd_newarr_bool B hRc hRs KS hM hok h
    · cases h3
  case invokevirtual n =>
    have hok2 := hok
    unfold okI at hok2
    rw [hM] at hok2
    dsimp only at hok2
    rw [Bool.and_eq_true] at hok2
    obtain ⟨hd, h3⟩ := hok2
    split at h3
    · exact HS pc n 8 c1 (Or.inl rfl) hM h0
    · exact HS pc n 9 c1 (Or.inr rfl) hM h0
    · exact sd_clone B hRc hRs KS hM hok h
    · obtain ⟨z, nn, rk, ci, hs, e9, h4⟩ := p4_inv h
      subst e9
      have hrk := okC_rk h3 hM
      refine sd_virt B KS F C hge hkg hRc hRs hmo hM hd h3 ?_
      split at h4
      · omega
      · omega
      · omega
      · exact h4
  case invokespecial n =>
    have hok2 := hok
    unfold okI at hok2
    rw [hM] at hok2
    dsimp only at hok2
    rw [Bool.and_eq_true] at hok2
    obtain ⟨hd, h3⟩ := hok2
    split at h3
    · exact sd_objinit B hRc hRs KS hM hok h
    · obtain ⟨z, nn, rk, ci, hs, e9, h4⟩ := p4_inv h
      subst e9
      have hrk := okC_rk h3 hM
      refine sd_spec B KS F C hge hkg hRc hRs hmo hM hd h3 ?_
      split at h4
      · omega
      · exact h4
  case invokestatic n =>
    have hok2 := hok
    unfold okI at hok2
    rw [hM] at hok2
    dsimp only at hok2
    rw [Bool.and_eq_true] at hok2
    obtain ⟨hd, h3⟩ := hok2
    split at h3
    · exact sd_mmax B hRc hRs KS hM hok h
    · exact sd_mmin B hRc hRs KS hM hok h
    · exact sd_mabs B hRc hRs KS hM hok h
    · exact sd_acopy B hRc hRs KS hM hok h
    · obtain ⟨z, nn, rk, ci, hs, e9, h4⟩ := p4_inv h
      subst e9
      have hrk := okC_rk h3 hM
      refine sd_stat B KS F C hge hkg hRc hRs hmo hM hd h3 ?_
      split at h4
      · omega
      · omega
      · omega
      · omega
      · exact h4
  all_goals (cases h; done)
/-- a run of the method's code -/
theorem exec_sound {cl : CL} (B : Bse G y (d + 1) p l R s m args meth c) (F : Fin G y p l e R s m args below meth c Q n0 c0 w0 ad0 o τ) (C : CTR G l d cl) (hge : ∀ y a σ, oGe σ (cl y a σ)) (hRc : hC τ ≤ c0 + R.cells) (hRs : hW τ ≤ w0 + R.slots) (hmo : ∀ z, z < 374 → MOK z) (hok : ∀ i, okI y M wp i = true ∨ ∀ (k : KK) (ls st : List Value) (σ : HS), stepG cl k (M i) i ls st σ = none)
    (HT : ∀ (k : KK) (i : Nat) (ls st : List Value) (σ : HS) (pc n E : Nat) (c1 : Int32), okI y M wp i = true → M i = (pc, .new n, [E], c1) → stepG cl k (M i) i ls st σ = some (o, τ) → Go G y p l e R s m args below meth c Q n0 c0 w0 ad0 M i ls st σ)
    (HS : ∀ (k : KK) (i : Nat) (ls st : List Value) (σ : HS) (pc n rk : Nat) (c1 : Int32), KSt G y p l e R s m args below meth c Q n0 c0 w0 ad0 M o τ k → okI y M wp i = true → rk = 8 ∨ rk = 9 → M i = (pc, .invokevirtual n, [0, 0, rk, 0], c1) → stepG cl k (M i) i ls st σ = some (o, τ) → Go G y p l e R s m args below meth c Q n0 c0 w0 ad0 M i ls st σ) :
    ∀ N, KSt G y p l e R s m args below meth c Q n0 c0 w0 ad0 M o τ (exec cl M N)
  | 0 => fun _ _ _ _ h => by cases h
  | N + 1 => fun i ls st σ h => by
    have ih := exec_sound B F C hge hRc hRs hmo hok HT HS N
    refine ⟨oGe.exec hge M (N + 1) i ls st σ _ _ h, ?_⟩
    rcases hok i with hi | hi
    · exact step_sound B ih F C hge (fun i ls st σ => oGe.exec hge M N i ls st σ) hRc hRs hmo hi (fun pc n E c1 hM h => HT _ i ls st σ pc n E c1 hi hM h) (fun pc n rk c1 hrk hM h => HS _ i ls st σ pc n rk c1 ih hi hrk hM h) h
    · have h2 : stepG cl (exec cl M N) (M i) i ls st σ = some (o, τ) := h
      rw [hi] at h2
      cases h2
end STP
