/-! the texts at the law's start; own -/
def strT (q : Lit) : Term := .string q.1 q.2.1
def valT (q : Lit) : Term := .field (strT q) "java/lang/String" "value" "[B"
def cds (q : Lit) : List Cond := [.exactly (strT q) "java/lang/String", .eq (.field (strT q) "java/lang/String" "coder" "B") (.int 0), .arrayOf (valT q) .byte, .eq (.length (valT q)) (.int (Int32.ofNat q.2.2.2.length))] ++ (List.range q.2.2.2.length).map (fun j => .eq (.elem (valT q) (.int (Int32.ofNat j))) (.int (q.2.2.2.getD j 0)))
def litsN : List Lit := [29, 2, 30, 12, 13, 14, 15, 9, 10, 11, 3, 16, 17, 18, 4, 5, 19, 20, 6, 7, 8, 21, 22, 23, 24, 25, 26, 27, 28, 31, 32, 33, 34, 35, 0, 1].filterMap (fun i => lits[i]?)
set_option maxRecDepth 100000 in
theorem cds_in : litsN.flatMap cds = (flatC narrow_1).drop 52 := by decide +kernel
set_option maxRecDepth 100000 in
theorem litsN_all : (List.range 36).all (fun i => [29, 2, 30, 12, 13, 14, 15, 9, 10, 11, 3, 16, 17, 18, 4, 5, 19, 20, 6, 7, 8, 21, 22, 23, 24, 25, 26, 27, 28, 31, 32, 33, 34, 35, 0, 1].contains i) = true := by decide +kernel
set_option maxRecDepth 100000 in
theorem lits_len : lits.length = 36 := by decide +kernel
theorem lits_ln : lits.all (fun q => decide (q.2.2.2.length < 2 ^ 31)) = true := by decide +kernel
set_option maxRecDepth 100000 in
theorem lits_ref : lits.all (fun q => tables_1.contains (Cond.stringRef q.1 q.2.1 q.2.2.1)) = true := by decide +kernel
theorem cs_compact : Cond.eq (.static "java/lang/String" "COMPACT_STRINGS" "Z") (.int 1) ∈ flatC narrow_1 := by decide +kernel
theorem cs_sioobe : Cond.isRef (.static "jdk/internal/util/Preconditions" "SIOOBE_FORMATTER" "Ljava/util/function/BiFunction;") ∈ flatC narrow_1 := by decide +kernel
theorem tb_1 : Cond.laysStatic "java/lang/String" "COMPACT_STRINGS" "Z" ∈ tables_1 := by decide +kernel
theorem tb_2 : Cond.initialized "java/lang/String" ∈ tables_1 := by decide +kernel
theorem tb_3 : Cond.laysStatic "jdk/internal/util/Preconditions" "SIOOBE_FORMATTER" "Ljava/util/function/BiFunction;" ∈ tables_1 := by decide +kernel
theorem tb_4 : Cond.initialized "jdk/internal/util/Preconditions" ∈ tables_1 := by decide +kernel
theorem in_tbl {w : Cond} (h : w ∈ tables_1) : w ∈ lw_tbl := List.mem_append_right _ h
theorem sf_of {b : Nat} {s : State} {A : Nat → Prop} (hts0 : ∀ w ∈ lw_tbl, w.before #[Value.ref b] s = true) (hgv : (Jvm.Cond.and given_1 narrow_1).before #[Value.ref b] s = true) (hA : ∀ a : Nat, a < s.heap.size → ¬ A a) : ∃ ad : Nat → Nat, ad 40000 = b ∧ SF ad A s := by
  have hn : ∀ c ∈ flatC narrow_1, c.before #[Value.ref b] s = true := fun c hc => flat_of_before _ hgv c (List.mem_append_right _ hc)
  have hcd : ∀ (i : Nat) (q : Lit), lits[i]? = some q → ∀ c ∈ cds q, c.before #[Value.ref b] s = true := by
    intro i q hq c hc
    refine hn c (List.mem_of_mem_drop (i := 52) ?_)
    rw [← cds_in]
    refine List.mem_flatMap.mpr ⟨q, ?_, hc⟩
    refine List.mem_filterMap.mpr ⟨i, ?_, hq⟩
    have hi : i < 36 := by rw [← lits_len]; exact (List.getElem?_eq_some_iff.mp hq).1
    have := List.all_eq_true.mp litsN_all i (List.mem_range.mpr hi)
    simpa using this
  have h0 : ∀ i : Nat, ∃ z : Nat × Nat, ∀ q : Lit, lits[i]? = some q → (strT q).eval #[Value.ref b] s none [] s = some (.ref z.1) ∧ va_O strN z.1 A s s.heap ∧ va_OF strN "coder" "B" (.int 0) z.1 A s s.heap ∧ va_OF strN "value" "[B" (.ref z.2) z.1 A s s.heap ∧ va_T .byte z.2 q.2.2.2.length (fun j => .int (q.2.2.2.getD j 0)) A s s.heap := by
    intro i
    cases hq : lits[i]? with
    | none => exact ⟨(0, 0), fun q h => by cases h⟩
    | some q =>
      have hc := hcd i q hq
      have hln : q.2.2.2.length < 2 ^ 31 := by
        have := List.all_eq_true.mp lits_ln q (List.mem_of_getElem? hq)
        simpa using this
      have hex : (Cond.exactly (strT q) "java/lang/String").before #[Value.ref b] s = true := hc _ (by simp [cds])
      have hco : (Cond.eq (.field (strT q) "java/lang/String" "coder" "B") (.int 0)).before #[Value.ref b] s = true := hc _ (by simp [cds])
      have har : (Cond.arrayOf (valT q) .byte).before #[Value.ref b] s = true := hc _ (by simp [cds])
      have hle : (Cond.eq (.length (valT q)) (.int (Int32.ofNat q.2.2.2.length))).before #[Value.ref b] s = true := hc _ (by simp [cds])
      have hel : ∀ j : Nat, j < q.2.2.2.length → (Cond.eq (.elem (valT q) (.int (Int32.ofNat j))) (.int (q.2.2.2.getD j 0))).before #[Value.ref b] s = true := fun j hj => hc _ (List.mem_append_right _ (List.mem_map.mpr ⟨j, List.mem_range.mpr hj, rfl⟩))
      obtain ⟨a, c, cA, kA, q1, q2, q3, q4, q5, q6, -⟩ := Cond.exactly_spec (args := #[Value.ref b]) (first := s) (o := none) (s := s) (idx := []) (t := strT q) (cls := "java/lang/String") hex
      obtain ⟨t, ht, hT⟩ := va_Tof (f := fun j => .int (q.2.2.2.getD j 0)) (A := A) hln har (va_eqt hle) (fun j hj => va_eqt (hel j hj)) hA
      exact ⟨(a, t), fun q' h => by cases h; exact ⟨q1, va_Oof hex q1 hA, vk_OFof q1 (va_eqt hco) hA, vk_OFof q1 ht hA, hT⟩⟩
  obtain ⟨f, hf⟩ := Classical.axiomOfChoice h0
  obtain ⟨v, hv1, hv2⟩ := Cond.isRef_spec (args := #[Value.ref b]) (first := s) (o := none) (s := s) (idx := []) (hn _ cs_sioobe)
  have hcat : v.category = 1 := by
    cases v <;> first | rfl | cases hv2
  refine ⟨fun k => if k = 40000 then b else if 20000 ≤ k then (f (k - 20000)).2 else (f (k - 10000)).1, rfl, ?_, ?_, ?_⟩
  · intro i q hq
    have hi : i < 36 := by rw [← lits_len]; exact (List.getElem?_eq_some_iff.mp hq).1
    obtain ⟨g1, g2, g3, g4, g5⟩ := hf i q hq
    have e1 : (if 10000 + i = 40000 then b else if 20000 ≤ 10000 + i then (f (10000 + i - 20000)).2 else (f (10000 + i - 10000)).1) = (f i).1 := by
      rw [if_neg (by omega), if_neg (by omega), show 10000 + i - 10000 = i by omega]
    have e2 : (if 20000 + i = 40000 then b else if 20000 ≤ 20000 + i then (f (20000 + i - 20000)).2 else (f (20000 + i - 10000)).1) = (f i).2 := by
      rw [if_neg (by omega), if_pos (by omega), show 20000 + i - 20000 = i by omega]
    have hr : (Cond.stringRef q.1 q.2.1 q.2.2.1).before #[Value.ref b] s = true := by
      have := List.all_eq_true.mp lits_ref q (List.mem_of_getElem? hq)
      exact hts0 _ (in_tbl (by simpa using this))
    unfold SFi
    simp only [e1, e2]
    exact ⟨vk_R.of hr g1, g2, g3, g4, g5⟩
  · exact va_Zof (hts0 _ (in_tbl tb_1)) (hts0 _ (in_tbl tb_2)) (va_eqt (hn _ cs_compact)) hA
  · exact ⟨v, va_Zof (hts0 _ (in_tbl tb_3)) (hts0 _ (in_tbl tb_4)) hv1 hA, hcat⟩
