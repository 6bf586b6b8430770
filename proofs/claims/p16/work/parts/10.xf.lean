/-! what is read lies behind where it began; own -/
section GE
variable {f : Nat → Int32} {L n m : Nat} {bs : List Int32} {pn dn : Nat → Int64} {np nd : Nat} {pl : Int32}
theorem tN_ge2 : n ≤ tN f L n := Nat.le_trans tP_ge tN_ge
theorem sWord_ge {w : Int64} (h : sWord f L w n = .inr m) : n ≤ m := by
  unfold sWord at h
  split at h
  · cases h; exact tN_ge2
  · cases h
theorem sEnd_ge (h : sEnd f L n = .inr m) : n ≤ m := by
  unfold sEnd at h
  split at h
  · cases h; exact tN_ge2
  · cases h
theorem sNum_ge {lo hi v : Int32} (h : sNum f L lo hi n = .inr (m, v)) : n ≤ m := by
  unfold sNum at h
  split at h
  · split at h
    · cases h; exact tN_ge2
    · cases h
  · cases h
theorem sName_ge {w : Int64} (h : sName f L bs n = .inr (m, w)) : n ≤ m := by
  unfold sName at h
  split at h
  · cases h; exact tN_ge2
  · cases h
theorem sKind_ge {v : Int32} (h : sKind f L n = .inr (m, v)) : n ≤ m := by
  unfold sKind at h
  split at h
  · cases h; exact tN_ge2
  · split at h
    · cases h; exact tN_ge2
    · split at h
      · cases h; exact tN_ge2
      · split at h
        · cases h; exact tN_ge2
        · cases h
theorem eR_ge : ∀ (k : Nat) (wa : Int32) (n : Nat) (wt : Nat → Int32) (wn : Nat) (dp op : Int32) (m : Nat), eR f L k wa n wt wn dp op = .inr m → n ≤ m
  | 0, _, _, _, _, _, _, _, h => by cases h
  | k + 1, wa, n, wt, wn, dp, op, m, h => by
    have g := tN_ge2 (f := f) (L := L) (n := n)
    rw [eR] at h
    repeat' split at h
    all_goals first
      | exact Nat.le_trans g (eR_ge k _ _ _ _ _ _ _ h)
      | (cases h; exact g)
      | cases h
theorem sBoth_ge {w : Int64} {hi v : Int32} (h : sBoth f L w hi n = .inr (m, v)) : n ≤ m := by
  unfold sBoth at h
  cases e : sWord f L w n with
  | inl x => rw [e] at h; cases h
  | inr x =>
    rw [e] at h
    exact Nat.le_trans (sWord_ge e) (sNum_ge h)
theorem sPers_ge {w : Int64} (h : sPers f L bs pn np n = .inr (m, w)) : n ≤ m := by
  unfold sPers at h
  cases e : sName f L bs n with
  | inl x => rw [e] at h; cases h
  | inr x =>
    obtain ⟨n1, w1⟩ := x
    rw [e] at h
    dsimp only at h
    split at h
    · cases h
    · cases h
      exact sName_ge e
theorem sNew_ge {w : Int64} (h : sNew f L bs pn dn np nd n = .inr (m, w)) : n ≤ m := by
  unfold sNew at h
  cases e : sName f L bs n with
  | inl x => rw [e] at h; cases h
  | inr x =>
    obtain ⟨n1, w1⟩ := x
    rw [e] at h
    dsimp only at h
    split at h
    · cases h
      exact sName_ge e
    · cases h
theorem sPe_ge {w : Int64} {k h0 s v : Int32} (h : sPe f L bs pn dn np nd pl n = .inr (m, w, k, h0, s, v)) : n ≤ m ∧ np < 6 := by
  unfold sPe at h
  split at h
  · cases h
  · rename_i gd
    cases e0 : sNew f L bs pn dn np nd n with
    | inl x => rw [e0] at h; cases h
    | inr x =>
      obtain ⟨n1, w1⟩ := x
      rw [e0] at h
      try dsimp only at h
      have g0 := sNew_ge e0
      cases e1 : sKind f L n1 with
      | inl x => rw [e1] at h; cases h
      | inr x =>
        obtain ⟨n2, k1⟩ := x
        rw [e1] at h
        try dsimp only at h
        have g1 := sKind_ge e1
        cases e2 : sBoth f L (bw (zl 9)) 9 n2 with
        | inl x => rw [e2] at h; cases h
        | inr x =>
          obtain ⟨n3, a1⟩ := x
          rw [e2] at h
          try dsimp only at h
          have g2 := sBoth_ge e2
          cases e3 : sBoth f L (bw (zl 10)) 9 n3 with
          | inl x => rw [e3] at h; cases h
          | inr x =>
            obtain ⟨n4, a2⟩ := x
            rw [e3] at h
            try dsimp only at h
            have g3 := sBoth_ge e3
            cases e4 : sBoth f L (bw (zl 11)) 99 n4 with
            | inl x => rw [e4] at h; cases h
            | inr x =>
              obtain ⟨n5, a3⟩ := x
              rw [e4] at h
              try dsimp only at h
              have g4 := sBoth_ge e4
              cases e5 : sEnd f L n5 with
              | inl x => rw [e5] at h; cases h
              | inr x =>
                obtain ⟨n6, hn6⟩ : ∃ y, y = x := ⟨x, rfl⟩
                subst hn6
                rw [e5] at h
                try dsimp only at h
                have g5 := sEnd_ge e5
                cases h
                exact ⟨by omega, by omega⟩
theorem sDi_ge {w : Int64} {b s v : Int32} (h : sDi f L bs pn dn np nd pl n = .inr (m, w, b, s, v)) : n ≤ m ∧ nd < 5 := by
  unfold sDi at h
  split at h
  · cases h
  · rename_i gd
    cases e0 : sNew f L bs pn dn np nd n with
    | inl x => rw [e0] at h; cases h
    | inr x =>
      obtain ⟨n1, w1⟩ := x
      rw [e0] at h
      try dsimp only at h
      have g0 := sNew_ge e0
      cases e1 : sBoth f L (bw (zl 16)) 20 n1 with
      | inl x => rw [e1] at h; cases h
      | inr x =>
        obtain ⟨n2, a1⟩ := x
        rw [e1] at h
        try dsimp only at h
        have g1 := sBoth_ge e1
        cases e2 : sBoth f L (bw (zl 17)) 9 n2 with
        | inl x => rw [e2] at h; cases h
        | inr x =>
          obtain ⟨n3, a2⟩ := x
          rw [e2] at h
          try dsimp only at h
          have g2 := sBoth_ge e2
          cases e3 : sBoth f L (bw (zl 18)) 20 n3 with
          | inl x => rw [e3] at h; cases h
          | inr x =>
            obtain ⟨n4, a3⟩ := x
            rw [e3] at h
            try dsimp only at h
            have g3 := sBoth_ge e3
            cases e4 : sEnd f L n4 with
            | inl x => rw [e4] at h; cases h
            | inr x =>
              obtain ⟨n5, hn5⟩ : ∃ y, y = x := ⟨x, rfl⟩
              subst hn5
              rw [e4] at h
              try dsimp only at h
              have g4 := sEnd_ge e4
              cases h
              exact ⟨by omega, by omega⟩
theorem sCup_ge {cu : Nat → Int32} {a b : Nat} (h : sCup f L bs pn np cu n = .inr (m, a, b)) : n ≤ m := by
  unfold sCup at h
  cases e1 : sPers f L bs pn np n with
  | inl x => rw [e1] at h; cases h
  | inr x =>
    obtain ⟨n1, w1⟩ := x
    rw [e1] at h
    dsimp only at h
    cases e2 : sPers f L bs pn np n1 with
    | inl x => rw [e2] at h; cases h
    | inr x =>
      obtain ⟨n2, w2⟩ := x
      rw [e2] at h
      dsimp only at h
      split at h
      · cases h
      · cases e3 : sEnd f L n2 with
        | inl x => rw [e3] at h; cases h
        | inr x =>
          rw [e3] at h
          cases h
          have g1 := sPers_ge e1
          have g2 := sPers_ge e2
          have g3 := sEnd_ge e3
          omega
theorem sSick_ge {sf : Nat → Int32} {a : Nat} {p q : Int32} (h : sSick f L bs pn np sf n = .inr (m, a, p, q)) : n ≤ m := by
  unfold sSick at h
  cases e1 : sPers f L bs pn np n with
  | inl x => rw [e1] at h; cases h
  | inr x =>
    obtain ⟨n1, w1⟩ := x
    rw [e1] at h
    dsimp only at h
    split at h
    · cases e2 : sBoth f L (bw (zl 19)) 99 n1 with
      | inl x => rw [e2] at h; cases h
      | inr x =>
        obtain ⟨n2, a1⟩ := x
        rw [e2] at h
        dsimp only at h
        cases e3 : sWord f L (bw (zl 20)) n2 with
        | inl x => rw [e3] at h; cases h
        | inr n3 =>
          rw [e3] at h
          dsimp only at h
          cases e4 : sNum f L a1 99 n3 with
          | inl x => rw [e4] at h; cases h
          | inr x =>
            obtain ⟨n4, b1⟩ := x
            rw [e4] at h
            dsimp only at h
            cases e5 : sEnd f L n4 with
            | inl x => rw [e5] at h; cases h
            | inr n5 =>
              rw [e5] at h
              cases h
              have g1 := sPers_ge e1
              have g2 := sBoth_ge e2
              have g3 := sWord_ge e3
              have g4 := sNum_ge e4
              have g5 := sEnd_ge e5
              omega
    · cases h
theorem sOne_ge {was hi v : Int32} (h : sOne f L was hi pl n = .inr (m, v)) : n ≤ m := by
  unfold sOne at h
  split at h
  · cases e1 : sNum f L 0 hi n with
    | inl x => rw [e1] at h; cases h
    | inr x =>
      obtain ⟨n1, v1⟩ := x
      rw [e1] at h
      dsimp only at h
      cases e2 : sEnd f L n1 with
      | inl x => rw [e2] at h; cases h
      | inr n2 =>
        rw [e2] at h
        cases h
        have g1 := sNum_ge e1
        have g2 := sEnd_ge e2
        omega
  · cases h
theorem sSha_ge {was : Int32} {wt : Nat → Int32} (h : sSha f L was pl wt n = .inr m) : n ≤ m ∧ was = 0 := by
  unfold sSha at h
  split at h
  · rename_i q
    exact ⟨eR_ge _ _ _ _ _ _ _ _ h, q⟩
  · cases h
end GE
