/-! a method's run ends at one point alone: two contracts of one method hold together; own -/
theorem ex_ret {s : State} {below : List Frame} {v : Option Value} (he : Ended s below (.returned v)) : s.frames.length = below.length := by
  cases below with
  | nil =>
    have h : v = none ∧ s.frames = [] := he
    rw [h.2]
  | cons fr r =>
    cases fr with
    | java g =>
      obtain ⟨c, i, len, _, _, h⟩ := he
      rw [h]
      rfl
    | native g =>
      rw [show s.frames = _ from he]
      rfl
    | proc g =>
      rw [show s.frames = _ from he]
      rfl
    | _ =>
      rw [show s.frames = _ from he.2]
theorem ex_out {s : State} {below : List Frame} {o : Outcome} (hw : Within s below) (he : Ended s below o) : False := by
  obtain ⟨above, h1, h2, h3⟩ := hw
  have hlen : s.frames.length = above.length + below.length := by rw [h1, List.length_append]
  have hpos : 0 < above.length := List.length_pos_iff.mpr h2
  cases o with
  | threw a =>
    have he' : s.frames = [.throwing a] ++ below := he
    rw [h1] at he'
    exact h3 a (List.append_cancel_right he')
  | returned v =>
    have := ex_ret he
    omega
theorem ex_oun {s : State} {below : List Frame} {o o' : Outcome} (h : Ended s below o) (h' : Ended s below o') : o = o' := by
  cases o with
  | threw a =>
    have e1 : s.frames = .throwing a :: below := h
    cases o' with
    | threw a' =>
      have e2 : s.frames = .throwing a' :: below := h'
      rw [e1] at e2
      injection e2 with e3 _
      injection e3 with e4
      rw [e4]
    | returned v =>
      have := ex_ret h'
      rw [e1, List.length_cons] at this
      omega
  | returned v =>
    cases o' with
    | threw a' =>
      have e2 : s.frames = .throwing a' :: below := h'
      have := ex_ret h
      rw [e2, List.length_cons] at this
      omega
    | returned v' =>
      cases below with
      | nil =>
        have h1 : v = none ∧ s.frames = [] := h
        have h2 : v' = none ∧ s.frames = [] := h'
        rw [h1.1, h2.1]
      | cons fr r =>
        cases fr with
        | java g =>
          obtain ⟨c, i, len, _, _, h⟩ := h
          obtain ⟨c', i', len', _, _, h'⟩ := h'
          rw [h] at h'
          injection h' with e1 _
          injection e1 with e2
          have e3 : v.toList ++ g.stack = v'.toList ++ g.stack := congrArg JFrame.stack e2
          have e4 := List.append_cancel_right e3
          cases v <;> cases v' <;> simp_all
        | native g =>
          have e0 := (show s.frames = _ from h).symm.trans (show s.frames = _ from h')
          injection e0 with e1 _
          injection e1 with e2
          simp_all
        | proc g =>
          have e0 := (show s.frames = _ from h).symm.trans (show s.frames = _ from h')
          injection e0 with e1 _
          injection e1 with e2
          simp_all
        | _ =>
          rw [show v = none from h.1, show v' = none from h'.1]
theorem ex_and {l : Launch} {y : MethodName} {ws : List Cond} {rm : Room} {P1 P2 : Array Value → State → Prop} {Q1 Q2 : Array Value → State → Outcome → State → Prop} {mc ms mc' ms' : Nat} {free free' : Addr → Prop} (h1 : Met l y ws rm P1 Q1 mc ms free) (h2 : Met l y ws rm P2 Q2 mc' ms' free') : Met l y ws rm (fun a s => P1 a s ∧ P2 a s) (fun a s o t => Q1 a s o t ∧ Q2 a s o t) mc ms free := by
  intro p e ha hf hc s m args below hfr hap hp hk
  obtain ⟨n1, o1, a1, b1, c1, d1⟩ := h1 p e ha hf hc s m args below hfr hap hp.1 trivial
  obtain ⟨n2, o2, a2, b2, c2, d2⟩ := h2 p e ha hf hc s m args below hfr hap hp.2 trivial
  have en : n1 = n2 := by
    rcases Nat.lt_trichotomy n1 n2 with hlt | heq | hgt
    · exact (ex_out (a2 n1 hlt) c1).elim
    · exact heq
    · exact (ex_out (a1 n2 hgt) c2).elim
  subst en
  have eo := ex_oun c1 c2
  subst eo
  exact ⟨n1, o1, a1, b1, c1, ⟨d1.1, d2.1⟩, d1.2⟩
