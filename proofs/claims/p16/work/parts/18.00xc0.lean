/-! the class's constructor: a step at a time, over a world whose rest is a variable; own -/
theorem tw_map {α : Type} (l r : List α) : (List.range l.length).map (fun i => (l ++ r)[i]?) = l.map some := by
  refine List.ext_getElem (by simp) (fun i h1 h2 => ?_)
  have h3 : i < l.length := by simpa using h1
  simp [List.getElem?_append_left h3, h3]
theorem tw_one {α : Type} (l : List α) (x : α) : [l.length].map (fun i => (l ++ [x])[i]?) = [x].map some := by simp
theorem tw_nd0 : ∀ l : List Nat, l.Nodup → va_nd l = true
  | [], _ => rfl
  | a :: l, h => by
    obtain ⟨h1, h2⟩ := List.nodup_cons.mp h
    show (decide (a ∉ l) && va_nd l) = true
    rw [tw_nd0 l h2, decide_eq_true h1]
    rfl
theorem tw_nd (n : Nat) : va_nd (List.range n) = true := tw_nd0 _ List.nodup_range
theorem tw_dis (n : Nat) : ∀ i ∈ List.range n, i ∉ [n] := fun i h => by
  have h1 := List.mem_range.mp h
  simp
  omega
theorem tw_at2 {α : Type} (a b x : α) (ws r : List α) : (a :: b :: (ws ++ x :: r))[ws.length + 2]? = some x := by simp
theorem tw_at3 {α : Type} (a b d x : α) (ws r : List α) : (a :: b :: d :: (ws ++ x :: r))[ws.length + 3]? = some x := by simp
theorem tw_P {D : va_G} {ws ws' : va_W} {H : Heap} (h : ws.Perm ws') (hP : va_P D vwCl ws H) : va_P D vwCl ws' H := fun k q hk => by
  obtain ⟨i, hi⟩ := List.getElem?_of_mem (h.mem_iff.mpr (List.mem_of_getElem? hk))
  exact hP i q hi
theorem tw_pw {A : Nat → Prop} {ws : va_W} (hD : va_D A ws) : ws.Pairwise (fun p q => p.1 ≠ q.1) := List.pairwise_iff_getElem.mpr fun i j hi hj hij e => by
  have := hD.1 i j _ _ (List.getElem?_eq_getElem hi) (List.getElem?_eq_getElem hj) e
  omega
theorem tw_D {A : Nat → Prop} {ws ws' : va_W} (h : ws.Perm ws') (hD : va_D A ws) : va_D A ws' := by
  have h1 : ws'.Pairwise (fun p q => p.1 ≠ q.1) := (h.pairwise_iff (fun h e => h e.symm)).mp (tw_pw hD)
  refine ⟨fun i j p q hi hj e => ?_, fun k q hk => ?_⟩
  · obtain ⟨gi, ei⟩ := List.getElem?_eq_some_iff.mp hi
    obtain ⟨gj, ej⟩ := List.getElem?_eq_some_iff.mp hj
    have h2 := List.pairwise_iff_getElem.mp h1
    rcases Nat.lt_trichotomy i j with hlt | heq | hgt
    · exact absurd (by rw [ei, ej]; exact e) (h2 i j gi gj hlt)
    · exact heq
    · exact absurd (by rw [ei, ej]; exact e.symm) (h2 j i gj gi hgt)
  · obtain ⟨i, hi⟩ := List.getElem?_of_mem (h.mem_iff.mpr (List.mem_of_getElem? hk))
    exact hD.2 i q hi
theorem tw_pm1 {α : Type} (a P M : α) (G R : List α) : List.Perm (a :: (G ++ P :: M :: R)) (a :: P :: M :: (G ++ R)) := ((List.perm_middle).trans ((List.perm_middle).cons P)).cons a
theorem tw_pm2 {α : Type} (a P M O : α) (G R S K T : List α) : List.Perm (a :: P :: M :: ((G ++ R) ++ (S ++ K)) ++ T ++ [O]) (a :: (G ++ (P :: (S ++ (M :: (K ++ (R ++ (T ++ [O])))))))) := by
  have e : a :: P :: M :: ((G ++ R) ++ (S ++ K)) ++ T ++ [O] = a :: P :: M :: (G ++ (R ++ (S ++ (K ++ (T ++ [O]))))) := by simp only [List.append_assoc, List.cons_append]
  rw [e]
  refine List.Perm.cons a ?_
  refine (List.Perm.cons P ?_).trans (List.perm_middle).symm
  have h1 : List.Perm (G ++ (S ++ (M :: (K ++ (R ++ (T ++ [O])))))) (M :: (G ++ (S ++ (K ++ (R ++ (T ++ [O])))))) := (List.Perm.append_left G List.perm_middle).trans List.perm_middle
  refine (List.Perm.cons M ?_).trans h1.symm
  refine List.Perm.append_left G ?_
  exact (List.perm_append_comm_assoc R S _).trans (List.Perm.append_left S (List.perm_append_comm_assoc R K _))
section TW
variable {p : Program} {l : Launch} {e : Env} {R : Room} {s : State} {m : MethodId} {args : Array Value} {below : List Frame} {meth : Method} {c : Code} {H : Heap} {locs : List Loc} {cells slots : Nat} {Q : State → Prop}
variable {pc : Nat} {ls : Array Slot} {rest : List Value} {D : va_G} {cy : Nat → ClassId} {A : Nat → Prop} {wr : va_W} {H0 : Heap} {mc ms : Nat} {st0 : List Value} {av : Array Value}
theorem x_vL {x : Nat × va_E} {B : Heap → Prop} (hP : va_P D vwCl (wr ++ [x]) H) (hD : va_D A (wr ++ [x])) (hS : va_S A H0 H locs) (hA : ∀ q, H0.size ≤ q → A q)
    (hr : va_Run p l e R s m args below meth c H locs cells slots mc ms (F0 m pc ls st0) rest (qv B (va_A [x] H.size) av) (va_A [x] H.size))
    (kk : ∀ (H1 : Heap) (locs1 : List Loc), B H1 → (∀ w1 : va_W, va_P D vwCl w1 H1 → va_D (va_A [x] H.size) w1 → va_P D vwCl (wr ++ w1) H1 ∧ va_D A (wr ++ w1)) → va_S A H0 H1 locs1 → W p l e R s m args below meth c H1 locs1 (cells + mc) (slots + ms) Q (F0 m (pc + 3) ls rest)) : W p l e R s m args below meth c H locs cells slots Q (F0 m pc ls st0) :=
  x_v hP hD hS hA [wr.length] (List.range wr.length) (tw_one wr x) (tw_map wr [x]) (tw_nd _) (tw_dis _) hr kk
theorem preL {x : Nat × va_E} {As : List Value} (hG : gk D cy s) (hP : va_P D vwCl (wr ++ [x]) H) (hD : va_D A (wr ++ [x])) : PreS s H (pre D cy As H.size [x]) As := preS hG hP hD [wr.length] (tw_one wr x) rfl
end TW
def TTX (p : Program) (s : State) (m : MethodId) (meth : Method) (c : Code) (h0 : Nat) (D : va_G) (cy : Nat → ClassId) (A : Nat → Prop) : Prop :=
  p.tables.exec = Jvm.exec ∧ c.code = cX11_init ∧ c.maxLocals = 2 ∧ (∀ w ∈ (Cond.code yX11_init cX11_init 2 none :: bigG), w.before ([.ref h0] : List Value).toArray s = true) ∧ s.vm.findClass RX11 = some m.cls ∧ meth.name = "<init>" ∧ gk D cy s ∧ ∀ q : Nat, s.heap.size ≤ q → A q
abbrev gp_X9_init (cy : Nat → ClassId) (h0 : Nat) (w : va_W) : Prop := ∃ (q1 : Nat), w = [(h0, .inr (9, [.ref q1, .int 0, .int 0, .int 0, .int 0, .int 32, .long 0, .int 0, .int 0])), (q1, .inl (cy 0, 1000, .inl (fun _ => 0)))]
abbrev gp_X1_init (cy : Nat → ClassId) (h0 : Nat) (w : va_W) : Prop := w = [(h0, .inr (1, [.int 0, .int 0, .int 0]))]
abbrev gp_X0_init (cy : Nat → ClassId) (h0 : Nat) (w : va_W) : Prop := ∃ (q_1 q_2 q_3 q_4 q_5 q_6 q_7 q_8 q_9 q_10 q_11 q_12 q_13 q_18 q_19 q_20 q1_14 q2_15 q3_16 q4_17 : Nat), w = [(h0, .inr (0, [.ref q_1, .ref q_2, .ref q_3, .ref q_4, .ref q_5, .ref q_6, .ref q_7, .ref q_8, .ref q_9, .ref q_10, .ref q_11, .ref q_12, .ref q_13, .int 0, .int 0, .int 0, .int 2, .ref q_18, .ref q_19, .ref q_20])), (q_1, .inl (cy 2, 6, .inr (.inl (fun _ => 0)))), (q_2, .inl (cy 1, 6, .inl (fun _ => 0))), (q_3, .inl (cy 1, 6, .inl (fun _ => 0))), (q_4, .inl (cy 1, 6, .inl (fun _ => 0))), (q_5, .inl (cy 1, 6, .inl (fun _ => 0))), (q_6, .inl (cy 1, 6, .inl (fun _ => 0))), (q_7, .inl (cy 1, 6, .inl (fun _ => 0))), (q_8, .inl (cy 1, 6, .inl (fun _ => 0))), (q_9, .inl (cy 2, 5, .inr (.inl (fun _ => 0)))), (q_10, .inl (cy 1, 5, .inl (fun _ => 0))), (q_11, .inl (cy 1, 5, .inl (fun _ => 0))), (q_12, .inl (cy 1, 5, .inl (fun _ => 0))), (q_13, .inr (3, [.ref q1_14, .int 0, .ref q2_15, .int 0, .int 0, .int 0, .ref q3_16, .ref q4_17])), (q1_14, .inl (cy 1, 1000, .inl (fun _ => 0))), (q2_15, .inl (cy 1, 40, .inl (fun _ => 0))), (q3_16, .inl (cy 1, 40, .inl (fun _ => 0))), (q4_17, .inl (cy 1, 5, .inl (fun _ => 0))), (q_18, .inl (cy 1, 360, .inl (fun _ => 0))), (q_19, .inl (cy 1, 30, .inl (fun _ => 0))), (q_20, .inl (cy 3, 60, .inl (fun _ => 0)))]
abbrev gp_X10_init (cy : Nat → ClassId) (h0 : Nat) (w : va_W) : Prop := ∃ (q1 q2 q3 : Nat), w = [(h0, .inr (10, [.ref q1, .ref q2, .ref q3, .int 0])), (q1, .inl (cy 1, 40, .inl (fun _ => 0))), (q2, .inl (cy 1, 40, .inl (fun _ => 0))), (q3, .inl (cy 1, 40, .inl (fun _ => 0)))]
abbrev gp_X8_init (cy : Nat → ClassId) (h0 : Nat) (w : va_W) : Prop := ∃ (q1 q2 q3 : Nat), w = [(h0, .inr (8, [.int 0, .int 0, .int 0, .ref q1, .ref q2, .ref q3])), (q1, .inl (cy 1, 6, .inl (fun _ => 0))), (q2, .inl (cy 1, 6, .inl (fun _ => 0))), (q3, .inl (cy 1, 6, .inl (fun _ => 0)))]
abbrev gp_X2_init (cy : Nat → ClassId) (h0 : Nat) (w : va_W) : Prop := ∃ (q_1 q_2 : Nat), w = [(h0, .inr (2, [.ref q_1, .int 0, .int 0, .int 0, .ref q_2])), (q_1, .inl (cy 1, 6, .inl (fl 6 (-1) (fun _ => 0)))), (q_2, .inl (cy 1, 6, .inl (fun _ => 0)))]
abbrev gp_X7_init (cy : Nat → ClassId) (h0 : Nat) (w : va_W) : Prop := ∃ (q_1 q_2 q_6 q_10 q_14 q1_3 q2_4 q3_5 q1_7 q2_8 q3_9 q1_11 q2_12 q3_13 q1_15 q2_16 q3_17 : Nat), w = [(h0, .inr (7, [.int 0, .int (-1), .int 0, .int (-1), .int 0, .ref q_1])), (q_1, .inl (cy 5, 4, .inr (.inr (.inr (.inr (va_up (va_up (va_up (va_up (fun _ => none) 0 (some q_2)) 1 (some q_6)) 2 (some q_10)) 3 (some q_14))))))), (q_2, .inr (8, [.int 0, .int 0, .int 0, .ref q1_3, .ref q2_4, .ref q3_5])), (q1_3, .inl (cy 1, 6, .inl (fun _ => 0))), (q2_4, .inl (cy 1, 6, .inl (fun _ => 0))), (q3_5, .inl (cy 1, 6, .inl (fun _ => 0))), (q_6, .inr (8, [.int 0, .int 0, .int 0, .ref q1_7, .ref q2_8, .ref q3_9])), (q1_7, .inl (cy 1, 6, .inl (fun _ => 0))), (q2_8, .inl (cy 1, 6, .inl (fun _ => 0))), (q3_9, .inl (cy 1, 6, .inl (fun _ => 0))), (q_10, .inr (8, [.int 0, .int 0, .int 0, .ref q1_11, .ref q2_12, .ref q3_13])), (q1_11, .inl (cy 1, 6, .inl (fun _ => 0))), (q2_12, .inl (cy 1, 6, .inl (fun _ => 0))), (q3_13, .inl (cy 1, 6, .inl (fun _ => 0))), (q_14, .inr (8, [.int 0, .int 0, .int 0, .ref q1_15, .ref q2_16, .ref q3_17])), (q1_15, .inl (cy 1, 6, .inl (fun _ => 0))), (q2_16, .inl (cy 1, 6, .inl (fun _ => 0))), (q3_17, .inl (cy 1, 6, .inl (fun _ => 0)))]
abbrev gp_X6_init (cy : Nat → ClassId) (h0 : Nat) (w : va_W) : Prop := ∃ (q1 q2 q3 q4 : Nat), w = [(h0, .inr (6, [.int 0, .ref q1, .ref q2, .ref q3, .ref q4, .int 0, .int 0])), (q1, .inl (cy 1, 6, .inl (fun _ => 0))), (q2, .inl (cy 1, 6, .inl (fun _ => 0))), (q3, .inl (cy 1, 6, .inl (fun _ => 0))), (q4, .inl (cy 1, 64, .inl (fun _ => 0)))]
abbrev gp_X5_init (cy : Nat → ClassId) (h0 : Nat) (w : va_W) : Prop := ∃ (q1 q2 : Nat), w = [(h0, .inr (5, [.int 0, .ref q1, .ref q2])), (q1, .inl (cy 1, 6, .inl (fun _ => 0))), (q2, .inl (cy 1, 6, .inl (fun _ => 0)))]
abbrev gp_X4_init (cy : Nat → ClassId) (h0 : Nat) (w : va_W) : Prop := ∃ (q_1 q_5 q_9 q1_2 q2_3 q3_4 q1_6 q2_7 q3_8 : Nat), w = [(h0, .inr (4, [.int 0, .ref q_1, .ref q_5, .ref q_9])), (q_1, .inr (8, [.int 0, .int 0, .int 0, .ref q1_2, .ref q2_3, .ref q3_4])), (q1_2, .inl (cy 1, 6, .inl (fun _ => 0))), (q2_3, .inl (cy 1, 6, .inl (fun _ => 0))), (q3_4, .inl (cy 1, 6, .inl (fun _ => 0))), (q_5, .inr (10, [.ref q1_6, .ref q2_7, .ref q3_8, .int 0])), (q1_6, .inl (cy 1, 40, .inl (fun _ => 0))), (q2_7, .inl (cy 1, 40, .inl (fun _ => 0))), (q3_8, .inl (cy 1, 40, .inl (fun _ => 0))), (q_9, .inl (cy 1, 6, .inl (fun _ => 0)))]
