/-! the exact walk: values, things by key, worlds with a rest that is a variable; own -/
abbrev MV : Type := Int32 ⊕ (Int64 ⊕ (Nat ⊕ Value))
abbrev ex_i (x : Int32) : MV := .inl x
abbrev ex_j (x : Int64) : MV := .inr (.inl x)
abbrev ex_r (k : Nat) : MV := .inr (.inr (.inl k))
abbrev ex_u (v : Value) : MV := .inr (.inr (.inr v))
abbrev MC : Type := (Nat × List MV) ⊕ ((Nat × Nat × (Nat → Int32)) ⊕ ((Nat × (Nat → Int64)) ⊕ (Nat × Nat × (Nat → Option Nat))))
abbrev ex_o (ci : Nat) (fs : List MV) : MC := .inl (ci, fs)
abbrev ex_a (kd n : Nat) (f : Nat → Int32) : MC := .inr (.inl (kd, n, f))
abbrev ex_b (n : Nat) (f : Nat → Int64) : MC := .inr (.inr (.inl (n, f)))
abbrev ex_q (kd n : Nat) (g : Nat → Option Nat) : MC := .inr (.inr (.inr (kd, n, g)))
abbrev EW : Type := List (Nat × MC)
def ex_v (ad : Nat → Nat) (a : MV) : Value := match a with
  | .inl x => .int x
  | .inr (.inl x) => .long x
  | .inr (.inr (.inl k)) => .ref (ad k)
  | .inr (.inr (.inr v)) => v
def ex_e (cy : Nat → ClassId) (ad : Nat → Nat) (c : MC) : va_E := match c with
  | .inl (ci, fs) => .inr (ci, fs.map (ex_v ad))
  | .inr (.inl (kd, n, f)) => .inl (cy kd, n, .inl f)
  | .inr (.inr (.inl (n, f))) => .inl (cy 2, n, .inr (.inl f))
  | .inr (.inr (.inr (kd, n, g))) => .inl (cy kd, n, .inr (.inr (.inr (.inr (fun j => (g j).map ad)))))
def ex_w (cy : Nat → ClassId) (ad : Nat → Nat) (cs : EW) : va_W := cs.map (fun q => (ad q.1, ex_e cy ad q.2))
def ex_l (ad : Nat → Nat) (lv : List (Nat × MV)) : List (Nat × Value) := lv.map (fun q => (q.1, ex_v ad q.2))
/-- of two words -/
def ex_2 (a : MV) : Bool := match a with
  | .inl _ => false
  | .inr (.inl _) => true
  | .inr (.inr (.inl _)) => false
  | .inr (.inr (.inr v)) => v.category == 2
theorem ex_cat (ad : Nat → Nat) (a : MV) : ((ex_v ad a).category == 2) = ex_2 a := by
  rcases a with x | x | k | v <;> rfl
theorem ex_lg {ad : Nat → Nat} {lv : List (Nat × MV)} {j i : Nat} {a : MV} (h : lv[j]? = some (i, a)) : (ex_l ad lv)[j]? = some (i, ex_v ad a) := by
  unfold ex_l
  rw [List.getElem?_map, h]
  rfl
theorem ex_at {cy : Nat → ClassId} {ad : Nat → Nat} {cs : EW} {T : va_W} {k key : Nat} {c : MC} (h : cs[k]? = some (key, c)) : (ex_w cy ad cs ++ T)[k]? = some (ad key, ex_e cy ad c) := by
  refine gapp ?_
  unfold ex_w
  rw [List.getElem?_map, h]
  rfl
theorem ex_sa {α : Type} : ∀ {l t : List α} {k : Nat} {a : α}, k < l.length → (l ++ t).set k a = l.set k a ++ t
  | [], _, _, _, h => absurd h (Nat.not_lt_zero _)
  | _ :: _, _, 0, _, _ => rfl
  | x :: l, t, k + 1, a, h => by
    show x :: (l ++ t).set k a = x :: (l.set k a ++ t)
    rw [ex_sa (Nat.lt_of_succ_lt_succ h)]
theorem ex_sm {α β : Type} (f : α → β) : ∀ {l : List α} {k : Nat} {a : α}, (l.map f).set k (f a) = (l.set k a).map f
  | [], _, _ => rfl
  | _ :: _, 0, _ => rfl
  | x :: l, k + 1, a => by
    show f x :: (l.map f).set k (f a) = f x :: (l.set k a).map f
    rw [ex_sm f]
theorem ex_set {cy : Nat → ClassId} {ad : Nat → Nat} {cs : EW} {T : va_W} {k key : Nat} {c0 c : MC} (h : cs[k]? = some (key, c0)) : (ex_w cy ad cs ++ T).set k (ad key, ex_e cy ad c) = ex_w cy ad (cs.set k (key, c)) ++ T := by
  have hl : k < cs.length := (List.getElem?_eq_some_iff.mp h).1
  have hl' : k < (ex_w cy ad cs).length := by unfold ex_w; rw [List.length_map]; exact hl
  rw [ex_sa hl']
  unfold ex_w
  rw [← ex_sm (fun q : Nat × MC => (ad q.1, ex_e cy ad q.2)) (l := cs) (k := k) (a := (key, c))]
def ex_s1 (i : Nat) (a : MV) (lv : List (Nat × MV)) : List (Nat × MV) := (i, a) :: lv.filter (fun q => !(q.1 == i) && !(q.1 + 1 == i && ex_2 q.2))
def ex_s2 (i : Nat) (a : MV) (lv : List (Nat × MV)) : List (Nat × MV) := (i, a) :: lv.filter (fun q => !(q.1 == i) && (!(q.1 == i + 1) && !(q.1 + 1 == i && ex_2 q.2)))
theorem ex_fl {ad : Nat → Nat} {P : Nat × Value → Bool} {P' : Nat × MV → Bool} (hp : ∀ q, P (q.1, ex_v ad q.2) = P' q) : ∀ lv : List (Nat × MV), (ex_l ad lv).filter P = ex_l ad (lv.filter P')
  | [] => rfl
  | q :: r => by
    show List.filter P ((q.1, ex_v ad q.2) :: ex_l ad r) = _
    cases e : P' q with
    | true =>
      rw [List.filter_cons_of_pos (by rw [hp]; exact e), List.filter_cons_of_pos e, ex_fl hp r]
      rfl
    | false =>
      rw [List.filter_cons_of_neg (by rw [hp, e]; decide), List.filter_cons_of_neg (by rw [e]; decide), ex_fl hp r]
theorem ex_s1_ok {ad : Nat → Nat} {i : Nat} {a : MV} {lv : List (Nat × MV)} : (i, ex_v ad a) :: (ex_l ad lv).filter (fun q => !(q.1 == i) && !(q.1 + 1 == i && q.2.category == 2)) = ex_l ad (ex_s1 i a lv) := by
  rw [ex_fl (ad := ad) (P' := fun q => !(q.1 == i) && !(q.1 + 1 == i && ex_2 q.2)) (fun q => by dsimp only; rw [ex_cat])]
  rfl
theorem ex_s2_ok {ad : Nat → Nat} {i : Nat} {a : MV} {lv : List (Nat × MV)} : (i, ex_v ad a) :: (ex_l ad lv).filter (fun q => !(q.1 == i) && (!(q.1 == i + 1) && !(q.1 + 1 == i && q.2.category == 2))) = ex_l ad (ex_s2 i a lv) := by
  rw [ex_fl (ad := ad) (P' := fun q => !(q.1 == i) && (!(q.1 == i + 1) && !(q.1 + 1 == i && ex_2 q.2))) (fun q => by dsimp only; rw [ex_cat])]
  rfl
/-- where a method stands: what holds of the machine through it -/
def ex_In (p : Program) (s : State) (m : MethodId) (args : Array Value) (meth : Method) (c : Code) (R : Room) (D : va_G) (cy : Nat → ClassId) (ad : Nat → Nat) (A : Nat → Prop) (y : MethodName) (cc : ByteArray) (nL : Nat) (ret : Option FieldType) (fr lc : Nat) : Prop :=
  CTX p s m args c cc nL y.cls (Cond.code y cc nL ret) D cy A ∧ SF ad A s ∧ (fr ≤ R.frames ∧ lc ≤ R.locals) ∧ meth.sig.returnType = ret ∧ meth.locks = false
/-- what holds at a method's end -/
def ex_Q (D : va_G) (cy : Nat → ClassId) (ad : Nat → Nat) (T : va_W) (ks : List Nat) (Q : EW → Option MV → Prop) : Option Value → Heap → Prop := fun v h => ∃ (cs : EW) (r : Option MV), Q cs r ∧ cs.map Prod.fst = ks ∧ v = r.map (ex_v ad) ∧ va_P D vwCl (ex_w cy ad cs ++ T) h
def ex_O (l : Launch) (y : MethodName) (cc : ByteArray) (nL : Nat) (ret : Option FieldType) (fr lc : Nat) (ks : List Nat) (Q : EW → Option MV → Prop) (cs : EW) (lv : List (Nat × MV)) (stk : List MV) (pc : Nat) : Prop :=
  ∀ (p : Program) (e : Env) (s : State) (m : MethodId) (args : Array Value) (below : List Frame) (meth : Method) (c : Code) (R : Room) (D : va_G) (cy : Nat → ClassId) (ad : Nat → Nat) (A : Nat → Prop) (T : va_W), ex_In p s m args meth c R D cy ad A y cc nL ret fr lc →
  ∀ (H : Heap) (locs : List Loc) (ls : Array Slot), va_P D vwCl (ex_w cy ad cs ++ T) H → va_D A (ex_w cy ad cs ++ T) → va_S A s.heap H locs → lv_has ls nL (ex_l ad lv) → W p l e R s m args below meth c H locs 0 0 (MQ below (ConQ ret (ex_Q D cy ad T ks Q) A) args s 0 0 A) (F0 m pc ls (stk.map (ex_v ad)))
