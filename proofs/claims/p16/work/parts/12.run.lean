/-! one step of any kind; own -/
def one (b : Bool) (o : Option AS) (nx : Nat) : Option (List (AS × Nat)) := if b then (match o with
  | some a => some [(a, nx)]
  | none => none) else none
theorem one_inv {b : Bool} {o : Option AS} {nx : Nat} {L : List (AS × Nat)} (h : one b o nx = some L) : b = true ∧ ∃ a, o = some a ∧ L = [(a, nx)] := by
  unfold one at h
  cases b with
  | false => cases h
  | true =>
    cases o with
    | none => cases h
    | some a =>
      cases h
      exact ⟨rfl, a, rfl, rfl⟩
def jmp (b : Bool) (pc : Nat) (off : Int) (f : Nat → Option (List (AS × Nat))) : Option (List (AS × Nat)) := if b then (match tg pc off with
  | some t => f t
  | none => none) else none
theorem jmp_inv {b : Bool} {pc : Nat} {off : Int} {f : Nat → Option (List (AS × Nat))} {L : List (AS × Nat)} (h : jmp b pc off f = some L) : b = true ∧ ∃ t, tg pc off = some t ∧ f t = some L := by
  unfold jmp at h
  cases b with
  | false => cases h
  | true =>
    rw [if_pos rfl] at h
    cases q : tg pc off with
    | none => rw [q] at h; cases h
    | some t =>
      rw [q] at h
      exact ⟨rfl, t, rfl, h⟩
/-- the tables of a kind: its pool's fields, ints and longs -/
abbrev KT : Type := List (Nat × Nat × Nat × Nat) × List (Nat × Int32) × List (Nat × Int64)
def KOK (own : String) (K : KT) : Prop := (∀ q ∈ K.1, FOK own q) ∧ (∀ q ∈ K.2.1, Cond.constant own q.1 q.2 ∈ bigG) ∧ ∀ q ∈ K.2.2, Cond.constantLong own q.1 q.2 ∈ bigG
def ldcA (K : List (Nat × Int32)) (i : Nat) (a : AS) : Option AS := match fnd i K with
  | some v => some (kA v.toInt a)
  | none => none
def ldc2A (K : List (Nat × Int64)) (i : Nat) (a : AS) : Option AS := match fnd i K with
  | some v => some (kL v.toInt a)
  | none => none
def stepA (nL : Nat) (K : KT) (pc len : Nat) (ins : Instr) (a : AS) : Option (List (AS × Nat)) := match ins with
  | .iload_n k => one (len == 1) (ldA k.val 0 a) (pc + 1)
  | .iload i => one (len == 2) (ldA i 0 a) (pc + 2)
  | .istore_n k => one (len == 1) (stA nL k.val 0 a) (pc + 1)
  | .istore i => one (len == 2) (stA nL i 0 a) (pc + 2)
  | .lload_n k => one (len == 1) (ldA k.val 1 a) (pc + 1)
  | .lload i => one (len == 2) (ldA i 1 a) (pc + 2)
  | .lstore_n k => one (len == 1) (stA nL k.val 1 a) (pc + 1)
  | .lstore i => one (len == 2) (stA nL i 1 a) (pc + 2)
  | .aload_n k => one (len == 1) (ldA k.val 2 a) (pc + 1)
  | .aload i => one (len == 2) (ldA i 2 a) (pc + 2)
  | .astore_n k => one (len == 1) (stA nL k.val 2 a) (pc + 1)
  | .astore i => one (len == 2) (stA nL i 2 a) (pc + 2)
  | .iinc i n => one (len == 3) (incA nL i n a) (pc + 3)
  | .iconst n => one (len == 1) (some (kA (Int32.ofInt n).toInt a)) (pc + 1)
  | .bipush n => one (len == 2) (some (kA ((Int8.ofInt n).toInt32).toInt a)) (pc + 2)
  | .sipush n => one (len == 3) (some (kA ((Int16.ofInt n).toInt32).toInt a)) (pc + 3)
  | .lconst n => one (len == 1) (some (kL (Int64.ofNat (n : Nat)).toInt a)) (pc + 1)
  | .ldc i => one (len == 2) (ldcA K.2.1 i a) (pc + 2)
  | .ldc_w i => one (len == 3) (ldcA K.2.1 i a) (pc + 3)
  | .ldc2_w i => one (len == 3) (ldc2A K.2.2 i a) (pc + 3)
  | .iadd => one (len == 1) (binA (opO (addR mnI mxI)) a) (pc + 1)
  | .isub => one (len == 1) (binA (opO (subR mnI mxI)) a) (pc + 1)
  | .imul => one (len == 1) (binA (opO (mulR mnI mxI)) a) (pc + 1)
  | .iand => one (len == 1) (binA (opO (bitR 0)) a) (pc + 1)
  | .ior => one (len == 1) (binA (opO (bitR 1)) a) (pc + 1)
  | .ixor => one (len == 1) (binA (opO (bitR 2)) a) (pc + 1)
  | .ishl => one (len == 1) (binA (opO (bitR 3)) a) (pc + 1)
  | .ishr => one (len == 1) (binA (opO (bitR 4)) a) (pc + 1)
  | .iushr => one (len == 1) (binA (opO (bitR 5)) a) (pc + 1)
  | .idiv => one (len == 1) (binA (divR mnI mxI) a) (pc + 1)
  | .irem => one (len == 1) (binA (remR mnI mxI) a) (pc + 1)
  | .ladd => one (len == 1) (binL (opO (addR mnL mxL)) a) (pc + 1)
  | .lsub => one (len == 1) (binL (opO (subR mnL mxL)) a) (pc + 1)
  | .lmul => one (len == 1) (binL (opO (mulR mnL mxL)) a) (pc + 1)
  | .land => one (len == 1) (binL (opO (fun b c _ _ => fullL b c)) a) (pc + 1)
  | .lor => one (len == 1) (binL (opO (fun b c _ _ => fullL b c)) a) (pc + 1)
  | .ldiv => one (len == 1) (binL (divR mnL mxL) a) (pc + 1)
  | .lrem => one (len == 1) (binL (remR mnL mxL) a) (pc + 1)
  | .lcmp => one (len == 1) (cmpA a) (pc + 1)
  | .lushr => one (len == 1) (shL a) (pc + 1)
  | .lshl => one (len == 1) (shL a) (pc + 1)
  | .ineg => one (len == 1) (unA (fun b c _ => fullR b c) a) (pc + 1)
  | .i2b => one (len == 1) (unA (fun b c _ => ivR b c (-128) 127) a) (pc + 1)
  | .i2c => one (len == 1) (unA (fun b c _ => ivR b c 0 65535) a) (pc + 1)
  | .i2l => one (len == 1) (i2lA a) (pc + 1)
  | .l2i => one (len == 1) (l2iA a) (pc + 1)
  | .dup => one (len == 1) (dupA a) (pc + 1)
  | .pop => one (len == 1) (popA a) (pc + 1)
  | .dup_x1 => one (len == 1) (dupx1A a) (pc + 1)
  | .dup2 => one (len == 1) (dup2A a) (pc + 1)
  | .arraylength => one (len == 1) (alenA a) (pc + 1)
  | .iaload => one (len == 1) (ialdA a) (pc + 1)
  | .baload => one (len == 1) (baldA a) (pc + 1)
  | .laload => one (len == 1) (laldA a) (pc + 1)
  | .iastore => one (len == 1) (iastA a) (pc + 1)
  | .bastore => one (len == 1) (bastA a) (pc + 1)
  | .lastore => one (len == 1) (lastA a) (pc + 1)
  | .getfield i => one (len == 3) (gfA K.1 i a) (pc + 3)
  | .putfield i => one (len == 3) (pfA K.1 i a) (pc + 3)
  | .aaload => if len == 1 then aaldA (pc + 1) a else none
  | .ifCond .eq off => jmp (len == 3) pc off (fun t => br0A 0 t (pc + 3) a)
  | .if_icmp .eq off => jmp (len == 3) pc off (fun t => br2A 0 t (pc + 3) a)
  | .ifCond .ne off => jmp (len == 3) pc off (fun t => br0A 1 t (pc + 3) a)
  | .if_icmp .ne off => jmp (len == 3) pc off (fun t => br2A 1 t (pc + 3) a)
  | .ifCond .lt off => jmp (len == 3) pc off (fun t => br0A 2 t (pc + 3) a)
  | .if_icmp .lt off => jmp (len == 3) pc off (fun t => br2A 2 t (pc + 3) a)
  | .ifCond .le off => jmp (len == 3) pc off (fun t => br0A 3 t (pc + 3) a)
  | .if_icmp .le off => jmp (len == 3) pc off (fun t => br2A 3 t (pc + 3) a)
  | .ifCond .gt off => jmp (len == 3) pc off (fun t => br0A 4 t (pc + 3) a)
  | .if_icmp .gt off => jmp (len == 3) pc off (fun t => br2A 4 t (pc + 3) a)
  | .ifCond .ge off => jmp (len == 3) pc off (fun t => br0A 5 t (pc + 3) a)
  | .if_icmp .ge off => jmp (len == 3) pc off (fun t => br2A 5 t (pc + 3) a)
  | .goto off => jmp (len == 3) pc off (fun t => some [(a, t)])
  | .tableswitch d lo hi os => tswA pc d lo hi os a
  | .lookupswitch d ps => lswA pc d ps a
  | _ => none
section STET
variable {p : Program} {l : Launch} {e : Env} {R : Room} {s : State} {m : MethodId} {args : Array Value} {below : List Frame} {meth : Method} {c : Code} {Q : State → Prop} {cc : ByteArray} {D : va_G} {cy : Nat → ClassId} {A : Nat → Prop} {nL : Nat} {own : String} {w0 : Cond} {ω : List Value} {ad : Nat → Nat} {σ0 : List Int} {φ0 : List (Nat → Int32)} {pc : Nat} {a a' : AS}
theorem step_ok (hX : CTX p s m args c cc nL own w0 D cy A) {K : KT} (hK : KOK own K) {len : Nat} {L : List (AS × Nat)} (hk : ∀ q ∈ L, OkA (Wq p l e R s m args below meth c Q) D cy A s.heap nL ω ad σ0 φ0 q.1 q.2) : ∀ (ins : Instr), stepA nL K pc len ins a = some L → decode cc pc = .ok (ins, len) → OkA (Wq p l e R s m args below meth c Q) D cy A s.heap nL ω ad σ0 φ0 a pc := by
  intro ins h hd
  cases ins
  case iload_n k =>
    unfold stepA at h
    obtain ⟨b, a', h1, rfl⟩ := one_inv h
    have b' := eq_of_beq b
    subst b'
    exact s_iload_n hX hd h1 (hk _ (List.mem_cons_self ..))
  case iload i =>
    unfold stepA at h
    obtain ⟨b, a', h1, rfl⟩ := one_inv h
    have b' := eq_of_beq b
    subst b'
    exact s_iload hX hd h1 (hk _ (List.mem_cons_self ..))
  case istore_n k =>
    unfold stepA at h
    obtain ⟨b, a', h1, rfl⟩ := one_inv h
    have b' := eq_of_beq b
    subst b'
    exact s_istore_n hX hd h1 (hk _ (List.mem_cons_self ..))
  case istore i =>
    unfold stepA at h
    obtain ⟨b, a', h1, rfl⟩ := one_inv h
    have b' := eq_of_beq b
    subst b'
    exact s_istore hX hd h1 (hk _ (List.mem_cons_self ..))
  case lload_n k =>
    unfold stepA at h
    obtain ⟨b, a', h1, rfl⟩ := one_inv h
    have b' := eq_of_beq b
    subst b'
    exact s_lload_n hX hd h1 (hk _ (List.mem_cons_self ..))
  case lload i =>
    unfold stepA at h
    obtain ⟨b, a', h1, rfl⟩ := one_inv h
    have b' := eq_of_beq b
    subst b'
    exact s_lload hX hd h1 (hk _ (List.mem_cons_self ..))
  case lstore_n k =>
    unfold stepA at h
    obtain ⟨b, a', h1, rfl⟩ := one_inv h
    have b' := eq_of_beq b
    subst b'
    exact s_lstore_n hX hd h1 (hk _ (List.mem_cons_self ..))
  case lstore i =>
    unfold stepA at h
    obtain ⟨b, a', h1, rfl⟩ := one_inv h
    have b' := eq_of_beq b
    subst b'
    exact s_lstore hX hd h1 (hk _ (List.mem_cons_self ..))
  case aload_n k =>
    unfold stepA at h
    obtain ⟨b, a', h1, rfl⟩ := one_inv h
    have b' := eq_of_beq b
    subst b'
    exact s_aload_n hX hd h1 (hk _ (List.mem_cons_self ..))
  case aload i =>
    unfold stepA at h
    obtain ⟨b, a', h1, rfl⟩ := one_inv h
    have b' := eq_of_beq b
    subst b'
    exact s_aload hX hd h1 (hk _ (List.mem_cons_self ..))
  case astore_n k =>
    unfold stepA at h
    obtain ⟨b, a', h1, rfl⟩ := one_inv h
    have b' := eq_of_beq b
    subst b'
    exact s_astore_n hX hd h1 (hk _ (List.mem_cons_self ..))
  case astore i =>
    unfold stepA at h
    obtain ⟨b, a', h1, rfl⟩ := one_inv h
    have b' := eq_of_beq b
    subst b'
    exact s_astore hX hd h1 (hk _ (List.mem_cons_self ..))
  case iinc i n =>
    unfold stepA at h
    obtain ⟨b, a', h1, rfl⟩ := one_inv h
    have b' := eq_of_beq b
    subst b'
    exact s_iinc hX hd h1 (hk _ (List.mem_cons_self ..))
  case iconst n =>
    unfold stepA at h
    obtain ⟨b, a', h1, rfl⟩ := one_inv h
    have b' := eq_of_beq b
    subst b'
    cases h1
    exact s_iconst hX hd (hk _ (List.mem_cons_self ..))
  case bipush n =>
    unfold stepA at h
    obtain ⟨b, a', h1, rfl⟩ := one_inv h
    have b' := eq_of_beq b
    subst b'
    cases h1
    exact s_bipush hX hd (hk _ (List.mem_cons_self ..))
  case sipush n =>
    unfold stepA at h
    obtain ⟨b, a', h1, rfl⟩ := one_inv h
    have b' := eq_of_beq b
    subst b'
    cases h1
    exact s_sipush hX hd (hk _ (List.mem_cons_self ..))
  case lconst n =>
    unfold stepA at h
    obtain ⟨b, a', h1, rfl⟩ := one_inv h
    have b' := eq_of_beq b
    subst b'
    cases h1
    exact s_lconst hX hd (hk _ (List.mem_cons_self ..))
  case ldc i =>
    unfold stepA at h
    obtain ⟨b, a', h1, rfl⟩ := one_inv h
    have b' := eq_of_beq b
    subst b'
    unfold ldcA at h1
    cases q : fnd i K.2.1 with
    | none => rw [q] at h1; cases h1
    | some v =>
      rw [q] at h1
      cases h1
      exact s_ldc hX hd (hK.2.1 _ (fnd_ok q)) (hk _ (List.mem_cons_self ..))
  case ldc_w i =>
    unfold stepA at h
    obtain ⟨b, a', h1, rfl⟩ := one_inv h
    have b' := eq_of_beq b
    subst b'
    unfold ldcA at h1
    cases q : fnd i K.2.1 with
    | none => rw [q] at h1; cases h1
    | some v =>
      rw [q] at h1
      cases h1
      exact s_ldcw hX hd (hK.2.1 _ (fnd_ok q)) (hk _ (List.mem_cons_self ..))
  case ldc2_w i =>
    unfold stepA at h
    obtain ⟨b, a', h1, rfl⟩ := one_inv h
    have b' := eq_of_beq b
    subst b'
    unfold ldc2A at h1
    cases q : fnd i K.2.2 with
    | none => rw [q] at h1; cases h1
    | some v =>
      rw [q] at h1
      cases h1
      exact s_ldc2 hX hd (hK.2.2 _ (fnd_ok q)) (hk _ (List.mem_cons_self ..))
  case iadd =>
    unfold stepA at h
    obtain ⟨b, a', h1, rfl⟩ := one_inv h
    have b' := eq_of_beq b
    subst b'
    exact s_iadd hX hd h1 (hk _ (List.mem_cons_self ..))
  case isub =>
    unfold stepA at h
    obtain ⟨b, a', h1, rfl⟩ := one_inv h
    have b' := eq_of_beq b
    subst b'
    exact s_isub hX hd h1 (hk _ (List.mem_cons_self ..))
  case imul =>
    unfold stepA at h
    obtain ⟨b, a', h1, rfl⟩ := one_inv h
    have b' := eq_of_beq b
    subst b'
    exact s_imul hX hd h1 (hk _ (List.mem_cons_self ..))
  case iand =>
    unfold stepA at h
    obtain ⟨b, a', h1, rfl⟩ := one_inv h
    have b' := eq_of_beq b
    subst b'
    exact s_iand hX hd h1 (hk _ (List.mem_cons_self ..))
  case ior =>
    unfold stepA at h
    obtain ⟨b, a', h1, rfl⟩ := one_inv h
    have b' := eq_of_beq b
    subst b'
    exact s_ior hX hd h1 (hk _ (List.mem_cons_self ..))
  case ixor =>
    unfold stepA at h
    obtain ⟨b, a', h1, rfl⟩ := one_inv h
    have b' := eq_of_beq b
    subst b'
    exact s_ixor hX hd h1 (hk _ (List.mem_cons_self ..))
  case ishl =>
    unfold stepA at h
    obtain ⟨b, a', h1, rfl⟩ := one_inv h
    have b' := eq_of_beq b
    subst b'
    exact s_ishl hX hd h1 (hk _ (List.mem_cons_self ..))
  case ishr =>
    unfold stepA at h
    obtain ⟨b, a', h1, rfl⟩ := one_inv h
    have b' := eq_of_beq b
    subst b'
    exact s_ishr hX hd h1 (hk _ (List.mem_cons_self ..))
  case iushr =>
    unfold stepA at h
    obtain ⟨b, a', h1, rfl⟩ := one_inv h
    have b' := eq_of_beq b
    subst b'
    exact s_iushr hX hd h1 (hk _ (List.mem_cons_self ..))
  case idiv =>
    unfold stepA at h
    obtain ⟨b, a', h1, rfl⟩ := one_inv h
    have b' := eq_of_beq b
    subst b'
    exact s_idiv hX hd h1 (hk _ (List.mem_cons_self ..))
  case irem =>
    unfold stepA at h
    obtain ⟨b, a', h1, rfl⟩ := one_inv h
    have b' := eq_of_beq b
    subst b'
    exact s_irem hX hd h1 (hk _ (List.mem_cons_self ..))
  case ladd =>
    unfold stepA at h
    obtain ⟨b, a', h1, rfl⟩ := one_inv h
    have b' := eq_of_beq b
    subst b'
    exact s_ladd hX hd h1 (hk _ (List.mem_cons_self ..))
  case lsub =>
    unfold stepA at h
    obtain ⟨b, a', h1, rfl⟩ := one_inv h
    have b' := eq_of_beq b
    subst b'
    exact s_lsub hX hd h1 (hk _ (List.mem_cons_self ..))
  case lmul =>
    unfold stepA at h
    obtain ⟨b, a', h1, rfl⟩ := one_inv h
    have b' := eq_of_beq b
    subst b'
    exact s_lmul hX hd h1 (hk _ (List.mem_cons_self ..))
  case land =>
    unfold stepA at h
    obtain ⟨b, a', h1, rfl⟩ := one_inv h
    have b' := eq_of_beq b
    subst b'
    exact s_land hX hd h1 (hk _ (List.mem_cons_self ..))
  case lor =>
    unfold stepA at h
    obtain ⟨b, a', h1, rfl⟩ := one_inv h
    have b' := eq_of_beq b
    subst b'
    exact s_lor hX hd h1 (hk _ (List.mem_cons_self ..))
  case ldiv =>
    unfold stepA at h
    obtain ⟨b, a', h1, rfl⟩ := one_inv h
    have b' := eq_of_beq b
    subst b'
    exact s_ldiv hX hd h1 (hk _ (List.mem_cons_self ..))
  case lrem =>
    unfold stepA at h
    obtain ⟨b, a', h1, rfl⟩ := one_inv h
    have b' := eq_of_beq b
    subst b'
    exact s_lrem hX hd h1 (hk _ (List.mem_cons_self ..))
  case lcmp =>
    unfold stepA at h
    obtain ⟨b, a', h1, rfl⟩ := one_inv h
    have b' := eq_of_beq b
    subst b'
    exact s_lcmp hX hd h1 (hk _ (List.mem_cons_self ..))
  case lushr =>
    unfold stepA at h
    obtain ⟨b, a', h1, rfl⟩ := one_inv h
    have b' := eq_of_beq b
    subst b'
    exact s_lushr hX hd h1 (hk _ (List.mem_cons_self ..))
  case lshl =>
    unfold stepA at h
    obtain ⟨b, a', h1, rfl⟩ := one_inv h
    have b' := eq_of_beq b
    subst b'
    exact s_lshl hX hd h1 (hk _ (List.mem_cons_self ..))
  case ineg =>
    unfold stepA at h
    obtain ⟨b, a', h1, rfl⟩ := one_inv h
    have b' := eq_of_beq b
    subst b'
    exact s_ineg hX hd h1 (hk _ (List.mem_cons_self ..))
  case i2b =>
    unfold stepA at h
    obtain ⟨b, a', h1, rfl⟩ := one_inv h
    have b' := eq_of_beq b
    subst b'
    exact s_i2b hX hd h1 (hk _ (List.mem_cons_self ..))
  case i2c =>
    unfold stepA at h
    obtain ⟨b, a', h1, rfl⟩ := one_inv h
    have b' := eq_of_beq b
    subst b'
    exact s_i2c hX hd h1 (hk _ (List.mem_cons_self ..))
  case i2l =>
    unfold stepA at h
    obtain ⟨b, a', h1, rfl⟩ := one_inv h
    have b' := eq_of_beq b
    subst b'
    exact s_i2l hX hd h1 (hk _ (List.mem_cons_self ..))
  case l2i =>
    unfold stepA at h
    obtain ⟨b, a', h1, rfl⟩ := one_inv h
    have b' := eq_of_beq b
    subst b'
    exact s_l2i hX hd h1 (hk _ (List.mem_cons_self ..))
  case dup =>
    unfold stepA at h
    obtain ⟨b, a', h1, rfl⟩ := one_inv h
    have b' := eq_of_beq b
    subst b'
    exact s_dup hX hd h1 (hk _ (List.mem_cons_self ..))
  case pop =>
    unfold stepA at h
    obtain ⟨b, a', h1, rfl⟩ := one_inv h
    have b' := eq_of_beq b
    subst b'
    exact s_pop hX hd h1 (hk _ (List.mem_cons_self ..))
  case dup_x1 =>
    unfold stepA at h
    obtain ⟨b, a', h1, rfl⟩ := one_inv h
    have b' := eq_of_beq b
    subst b'
    exact s_dup_x1 hX hd h1 (hk _ (List.mem_cons_self ..))
  case dup2 =>
    unfold stepA at h
    obtain ⟨b, a', h1, rfl⟩ := one_inv h
    have b' := eq_of_beq b
    subst b'
    exact s_dup2 hX hd h1 (hk _ (List.mem_cons_self ..))
  case arraylength =>
    unfold stepA at h
    obtain ⟨b, a', h1, rfl⟩ := one_inv h
    have b' := eq_of_beq b
    subst b'
    exact s_arraylength hX hd h1 (hk _ (List.mem_cons_self ..))
  case iaload =>
    unfold stepA at h
    obtain ⟨b, a', h1, rfl⟩ := one_inv h
    have b' := eq_of_beq b
    subst b'
    exact s_iaload hX hd h1 (hk _ (List.mem_cons_self ..))
  case baload =>
    unfold stepA at h
    obtain ⟨b, a', h1, rfl⟩ := one_inv h
    have b' := eq_of_beq b
    subst b'
    exact s_baload hX hd h1 (hk _ (List.mem_cons_self ..))
  case laload =>
    unfold stepA at h
    obtain ⟨b, a', h1, rfl⟩ := one_inv h
    have b' := eq_of_beq b
    subst b'
    exact s_laload hX hd h1 (hk _ (List.mem_cons_self ..))
  case iastore =>
    unfold stepA at h
    obtain ⟨b, a', h1, rfl⟩ := one_inv h
    have b' := eq_of_beq b
    subst b'
    exact s_iastore hX hd h1 (hk _ (List.mem_cons_self ..))
  case bastore =>
    unfold stepA at h
    obtain ⟨b, a', h1, rfl⟩ := one_inv h
    have b' := eq_of_beq b
    subst b'
    exact s_bastore hX hd h1 (hk _ (List.mem_cons_self ..))
  case lastore =>
    unfold stepA at h
    obtain ⟨b, a', h1, rfl⟩ := one_inv h
    have b' := eq_of_beq b
    subst b'
    exact s_lastore hX hd h1 (hk _ (List.mem_cons_self ..))
  case getfield i =>
    unfold stepA at h
    obtain ⟨b, a', h1, rfl⟩ := one_inv h
    have b' := eq_of_beq b
    subst b'
    exact s_getfield hX hK.1 hd h1 (hk _ (List.mem_cons_self ..))
  case putfield i =>
    unfold stepA at h
    obtain ⟨b, a', h1, rfl⟩ := one_inv h
    have b' := eq_of_beq b
    subst b'
    exact s_putfield hX hK.1 hd h1 (hk _ (List.mem_cons_self ..))
  case aaload =>
    simp only [stepA] at h
    by_cases b : (len == 1) = true
    · rw [if_pos b] at h
      have b' := eq_of_beq b
      subst b'
      exact s_aaload hX hd h hk
    · rw [if_neg b] at h
      cases h
  case ifCond r off =>
    cases r
    case eq =>
      unfold stepA at h
      obtain ⟨b, t, ht, h1⟩ := jmp_inv h
      have b' := eq_of_beq b
      subst b'
      exact s_if_eq hX hd ht h1 hk
    case ne =>
      unfold stepA at h
      obtain ⟨b, t, ht, h1⟩ := jmp_inv h
      have b' := eq_of_beq b
      subst b'
      exact s_if_ne hX hd ht h1 hk
    case lt =>
      unfold stepA at h
      obtain ⟨b, t, ht, h1⟩ := jmp_inv h
      have b' := eq_of_beq b
      subst b'
      exact s_if_lt hX hd ht h1 hk
    case le =>
      unfold stepA at h
      obtain ⟨b, t, ht, h1⟩ := jmp_inv h
      have b' := eq_of_beq b
      subst b'
      exact s_if_le hX hd ht h1 hk
    case gt =>
      unfold stepA at h
      obtain ⟨b, t, ht, h1⟩ := jmp_inv h
      have b' := eq_of_beq b
      subst b'
      exact s_if_gt hX hd ht h1 hk
    case ge =>
      unfold stepA at h
      obtain ⟨b, t, ht, h1⟩ := jmp_inv h
      have b' := eq_of_beq b
      subst b'
      exact s_if_ge hX hd ht h1 hk
  case if_icmp r off =>
    cases r
    case eq =>
      unfold stepA at h
      obtain ⟨b, t, ht, h1⟩ := jmp_inv h
      have b' := eq_of_beq b
      subst b'
      exact s_icmp_eq hX hd ht h1 hk
    case ne =>
      unfold stepA at h
      obtain ⟨b, t, ht, h1⟩ := jmp_inv h
      have b' := eq_of_beq b
      subst b'
      exact s_icmp_ne hX hd ht h1 hk
    case lt =>
      unfold stepA at h
      obtain ⟨b, t, ht, h1⟩ := jmp_inv h
      have b' := eq_of_beq b
      subst b'
      exact s_icmp_lt hX hd ht h1 hk
    case le =>
      unfold stepA at h
      obtain ⟨b, t, ht, h1⟩ := jmp_inv h
      have b' := eq_of_beq b
      subst b'
      exact s_icmp_le hX hd ht h1 hk
    case gt =>
      unfold stepA at h
      obtain ⟨b, t, ht, h1⟩ := jmp_inv h
      have b' := eq_of_beq b
      subst b'
      exact s_icmp_gt hX hd ht h1 hk
    case ge =>
      unfold stepA at h
      obtain ⟨b, t, ht, h1⟩ := jmp_inv h
      have b' := eq_of_beq b
      subst b'
      exact s_icmp_ge hX hd ht h1 hk
  case goto off =>
    unfold stepA at h
    obtain ⟨b, t, ht, h1⟩ := jmp_inv h
    have b' := eq_of_beq b
    subst b'
    cases h1
    exact s_goto hX hd ht (hk _ (List.mem_cons_self ..))
  case tableswitch d lo hi os => exact s_tableswitch hX hd h hk
  case lookupswitch d ps => exact s_lookupswitch hX hd h hk
  all_goals (simp only [stepA] at h; cases h)
end STET
