set_option maxHeartbeats 4000000 in
set_option maxRecDepth 100000 in
theorem c_X9_addBytes (l : Launch) (D : va_G) (cy : Nat → ClassId) (h0 : Nat) (q1 : Nat) (L : Nat) (fa : Int32) (ki : Int32) (nu : Int32) (sg : Int32) (wo : Int64) (ne : Int32) (pl : Int32) (f0 : Nat → Int32) (a1 : Int64) (sz : Nat) (hL : L ≤ 1000) : Met l yX9_addBytes (Cond.code yX9_addBytes cX9_addBytes 6 none :: bigG) ({ frames := 0, cells := 0, slots := 0, locals := 0 }) (pre D cy [.ref h0, .long a1] sz [(h0, .inr (9, [.ref q1, .int (nI L), .int fa, .int ki, .int nu, .int sg, .long wo, .int ne, .int pl])), (q1, .inl (cy 0, 1000, .inl f0))]) (qv (fun h => va_P D vwCl [(h0, .inr (9, [.ref q1, .int (nI (cb L a1 8)), .int fa, .int ki, .int nu, .int sg, .long wo, .int ne, .int pl])), (q1, .inl (cy 0, 1000, .inl (fb f0 L a1 8)))] h ∧ va_D (va_A [(h0, .inr (9, [.ref q1, .int (nI L), .int fa, .int ki, .int nu, .int sg, .long wo, .int ne, .int pl])), (q1, .inl (cy 0, 1000, .inl f0))] sz) [(h0, .inr (9, [.ref q1, .int (nI (cb L a1 8)), .int fa, .int ki, .int nu, .int sg, .long wo, .int ne, .int pl])), (q1, .inl (cy 0, 1000, .inl (fb f0 L a1 8)))]) (va_A [(h0, .inr (9, [.ref q1, .int (nI L), .int fa, .int ki, .int nu, .int sg, .long wo, .int ne, .int pl])), (q1, .inl (cy 0, 1000, .inl f0))] sz)) 0 0 (va_A [(h0, .inr (9, [.ref q1, .int (nI L), .int fa, .int ki, .int nu, .int sg, .long wo, .int ne, .int pl])), (q1, .inl (cy 0, 1000, .inl f0))] sz) := by
  refine Met.ofW (cc := cX9_addBytes) (maxL := 6) (ret := none) (by decide) rfl ?_
  intro p e s m args below meth c s₁ B hml hv
  obtain ⟨rfl, hsz, hP, hG, hD0⟩ := hv
  have hx := B.exec
  have hb := B.bytes
  have hr := B.returns
  have hts := atoms_spec (ws := (Cond.code yX9_addBytes cX9_addBytes 6 none :: bigG)) B.pre
  have hg : ∀ w ∈ bigG, w.before ([.ref h0, .long a1] : List Value).toArray s = true := fun w h => hts w (List.mem_cons_of_mem _ h)
  have hown : s.vm.findClass RX9 = some m.cls := findClass_of_methodNamed B.named
  have hlocks := B.notSynchronized
  subst hsz
  have hD := hD0.self (sz := s.heap.size)
  generalize hAe : va_A [(h0, .inr (9, [.ref q1, .int (nI L), .int fa, .int ki, .int nu, .int sg, .long wo, .int ne, .int pl])), (q1, .inl (cy 0, 1000, .inl f0))] s.heap.size = A at hD ⊢
  have hA : ∀ q : Nat, s.heap.size ≤ q → A q := fun q h => by rw [← hAe]; exact Or.inr h
  have hS : va_S A s.heap s.heap [] := va_S.rf
  have hP : va_P D vwCl [(h0, .inr (9, [.ref q1, .int (nI L), .int fa, .int ki, .int nu, .int sg, .long wo, .int ne, .int pl])), (q1, .inl (cy 0, 1000, .inl f0))] s.heap := hP
  have hl := lv_entry ([.ref h0, .long a1]) (n := 6) (Nat.le_of_ble_eq_true rfl)
  rw [lg_entry_eq]
  generalize (lg_sl ([.ref h0, .long a1]) ++ List.replicate (6 - (lg_sl ([.ref h0, .long a1])).length) Slot.unset).toArray = ls at hl ⊢
  have hl : lv_has ls 6 [(0, .ref h0), (1, .long a1)] := hl
  refine w_nm (fun Q hQ => ?_)
  refine lv_bipush (v := 56) hx hb dX9_addBytes_0 (by decide) ?_
  refine lv_istore_n (lv' := [(3, .int 56), (0, .ref h0), (1, .long a1)]) hx hb dX9_addBytes_2 rfl hl (by decide) rfl (fun ls hl => ?_)
  have LP_1 : ∀ (n_ : Nat) (k : Nat) (x3 : Int32) (f : Nat → Int32), 8 - k < n_ → k ≤ 8 → x3 = 56 - nI (8 * k) → f = fb f0 L a1 k → ∀ (H : Heap) (locs : List Loc), va_P D vwCl [(h0, .inr (9, [.ref q1, .int (nI (cb L a1 k)), .int fa, .int ki, .int nu, .int sg, .long wo, .int ne, .int pl])), (q1, .inl (cy 0, 1000, .inl f))] H → va_D A [(h0, .inr (9, [.ref q1, .int (nI (cb L a1 k)), .int fa, .int ki, .int nu, .int sg, .long wo, .int ne, .int pl])), (q1, .inl (cy 0, 1000, .inl f))] → va_S A s.heap H locs → ∀ (ls : Array Slot), lv_has ls 6 [(0, .ref h0), (1, .long a1), (3, .int x3)] → W p l e (headSpec (Cond.code yX9_addBytes cX9_addBytes 6 none :: bigG) { frames := 0, cells := 0, slots := 0, locals := 0 }).room s m ([.ref h0, .long a1] : List Value).toArray below meth c H locs 0 0 Q (F0 m 3 ls []) := by
    intro n_
    induction n_ with
    | zero => intro k x3 f hm_; exact absurd hm_ (Nat.not_lt_zero _)
    | succ n_ ih =>
      intro k x3 f hm_ hk ex3 ef H locs hP hD hS ls hl
      refine lv_iload_n hx hb dX9_addBytes_3 rfl (lv_at hl 2 rfl) ?_
      refine lv_if_lt (tgt := 88) hx hb dX9_addBytes_4 (by decide) (fun c_2 => ?_) (fun c_2 => ?_)
      · have hk9 : k = 8 := Nat.le_antisymm hk (Nat.le_of_not_lt fun q => absurd c_2 (by rw [ex3, e56 q]; exact nI_pos (by omega)))
        rw [hk9] at hP hD ef
        subst ef
        have hP9 := hP.sub (ws' := [(h0, .inr (9, [.ref q1, .int (nI (cb L a1 8)), .int fa, .int ki, .int nu, .int sg, .long wo, .int ne, .int pl])), (q1, .inl (cy 0, 1000, .inl (fb f0 L a1 8)))]) [0, 1] rfl
        have hD9 := hD.sub (ws' := [(h0, .inr (9, [.ref q1, .int (nI (cb L a1 8)), .int fa, .int ki, .int nu, .int sg, .long wo, .int ne, .int pl])), (q1, .inl (cy 0, 1000, .inl (fb f0 L a1 8)))]) [0, 1] (by decide) rfl
        subst hQ
        exact W.vret hx hb hr (fun t ht hW => qv_mk (by rw [ht]; exact ⟨hP9, hD9⟩) (hS.F ht)) hS.2.2 dX9_addBytes_88
      · have hk8 : k < 8 := Nat.lt_of_not_le fun q => c_2 (by rw [ex3, show k = 8 from Nat.le_antisymm hk q]; decide)
        refine lv_lload_n hx hb dX9_addBytes_7 rfl (lv_at hl 1 rfl) ?_
        refine lv_iload_n hx hb dX9_addBytes_8 rfl (lv_at hl 2 rfl) ?_
        refine lv_lushr (v := (a1.toUInt64 >>> (x3.toInt64.toUInt64 &&& Int64.toUInt64 63)).toInt64) hx hb dX9_addBytes_9 rfl ?_
        refine lv_ldc2 (v := 255) hx hb hown (hg _ k_480) dX9_addBytes_10 ?_
        refine m_land (v := (((a1.toUInt64 >>> (x3.toInt64.toUInt64 &&& Int64.toUInt64 63)).toInt64) &&& 255)) hx hb dX9_addBytes_13 rfl ?_
        refine lv_l2i (v := (((a1.toUInt64 >>> (x3.toInt64.toUInt64 &&& Int64.toUInt64 63)).toInt64) &&& 255).toInt32) hx hb dX9_addBytes_14 rfl ?_
        refine lv_topi (fun x4_3 ex4_3 => ?_)
        refine lv_istore (lv' := [(4, .int x4_3), (0, .ref h0), (1, .long a1), (3, .int x3)]) hx hb dX9_addBytes_15 hl (by decide) rfl (fun ls hl => ?_)
        have eb : x4_3 = byt a1 k := by rw [ex4_3, ex3, e56 hk8]; rfl
        refine lv_iload hx hb dX9_addBytes_17 (lv_at hl 0 rfl) ?_
        refine lv_bipush (v := 10) hx hb dX9_addBytes_19 (by decide) ?_
        refine lv_icmp_eq (tgt := 38) hx hb dX9_addBytes_21 (by decide) (fun c_4 => ?_) (fun c_4 => ?_)
        · refine lv_iconst (v := 1) hx hb dX9_addBytes_38 (by decide) ?_
          refine lv_goto (tgt := 43) hx hb dX9_addBytes_39 (by decide) ?_
          refine lv_istore (lv' := [(5, .int 1), (4, .int x4_3), (0, .ref h0), (1, .long a1), (3, .int x3)]) hx hb dX9_addBytes_43 hl (by decide) rfl (fun ls hl => ?_)
          refine lv_iload hx hb dX9_addBytes_45 (lv_at hl 0 rfl) ?_
          refine lv_if_eq (tgt := 82) hx hb dX9_addBytes_47 (by decide) (fun c_ => absurd c_ (by decide)) (fun _ => ?_)
          refine lv_aload_n hx hb dX9_addBytes_50 rfl (lv_at hl 2 rfl) ?_
          refine va_get (D := D) (ci := 9) (v := .int (nI (cb L a1 k))) (C := RX9) (T := TX9) (N := 9) hx hb hts (inC ibX9) hown hG.1 hP 0 rfl rfl 1 (by decide) (hg _ k_42) (fun _ h9 => h9) rfl dX9_addBytes_51 ?_
          refine lv_sipush (v := 1000) hx hb dX9_addBytes_54 (by decide) ?_
          refine lv_icmp_ge (tgt := 82) hx hb dX9_addBytes_57 (by decide) (fun c_5 => ?_) (fun c_5 => ?_)
          · obtain ⟨x3_6, ex3_6⟩ : ∃ y : Int32, y = x3 + (-8) := ⟨_, rfl⟩
            refine lv_iinc (v := x3_6) (lv' := [(3, .int x3_6), (5, .int 1), (4, .int x4_3), (0, .ref h0), (1, .long a1)]) hx hb dX9_addBytes_82 hl (k := 4) rfl (by rw [ex3_6]; rfl) (by decide) rfl (fun ls hl => ?_)
            refine lv_goto (tgt := 3) hx hb dX9_addBytes_85 (by decide) ?_
            have ec : nI (cb L a1 k) = nI (cb L a1 (k + 1)) := by show _ = nI (stp _ _); rw [stp_full (nI_ge1000 (cb_le a1 hL k) c_5)]
            rw [ec] at hP hD
            have ef2 : f = fb f0 L a1 (k + 1) := by rw [ef]; show _ = wst _ _ _; exact wst_full (nI_ge1000 (cb_le a1 hL k) c_5)
            exact ih (k + 1) x3_6 f (by omega) hk8 (by rw [ex3_6, ex3]; rcases (show k = 0 ∨ k = 1 ∨ k = 2 ∨ k = 3 ∨ k = 4 ∨ k = 5 ∨ k = 6 ∨ k = 7 by omega) with h | h | h | h | h | h | h | h <;> subst h <;> decide) ef2 _ _ (hP.sub [0, 1] rfl) (hD.sub [0, 1] (by decide) rfl) hS ls (lv_sub hl [3, 4, 0] rfl)
          · have hlt : cb L a1 k < 1000 := nI_lt1000 (cb_le a1 hL k) c_5
            refine lv_aload_n hx hb dX9_addBytes_60 rfl (lv_at hl 2 rfl) ?_
            refine va_get (D := D) (ci := 9) (v := .ref q1) (C := RX9) (T := TX9) (N := 9) hx hb hts (inC ibX9) hown hG.1 hP 0 rfl rfl 0 (by decide) (hg _ k_41) (fun _ h9 => h9) rfl dX9_addBytes_61 ?_
            refine lv_aload_n hx hb dX9_addBytes_64 rfl (lv_at hl 2 rfl) ?_
            refine va_get (D := D) (ci := 9) (v := .int (nI (cb L a1 k))) (C := RX9) (T := TX9) (N := 9) hx hb hts (inC ibX9) hown hG.1 hP 0 rfl rfl 1 (by decide) (hg _ k_42) (fun _ h9 => h9) rfl dX9_addBytes_65 ?_
            refine lv_iload hx hb dX9_addBytes_68 (lv_at hl 1 rfl) ?_
            refine lv_i2b (v := x4_3.toInt8.toInt32) hx hb dX9_addBytes_70 rfl ?_
            refine m_bast (g := upd f (nI (cb L a1 k)).toNatClampNeg (vp_nar .byte x4_3.toInt8.toInt32)) hx hb hG hP hD hS 1 rfl (vp_in_nI hlt (by decide)) dX9_addBytes_71 rfl (fun H locs hP hD hS => ?_)
            have hP : va_P D vwCl [(h0, .inr (9, [.ref q1, .int (nI (cb L a1 k)), .int fa, .int ki, .int nu, .int sg, .long wo, .int ne, .int pl])), (q1, .inl (cy 0, 1000, .inl (upd f (nI (cb L a1 k)).toNatClampNeg (vp_nar .byte x4_3.toInt8.toInt32))))] H := hP
            have hD : va_D A [(h0, .inr (9, [.ref q1, .int (nI (cb L a1 k)), .int fa, .int ki, .int nu, .int sg, .long wo, .int ne, .int pl])), (q1, .inl (cy 0, 1000, .inl (upd f (nI (cb L a1 k)).toNatClampNeg (vp_nar .byte x4_3.toInt8.toInt32))))] := hD
            refine lv_aload_n hx hb dX9_addBytes_72 rfl (lv_at hl 2 rfl) ?_
            refine lv_dup hx hb dX9_addBytes_73 rfl ?_
            refine va_get (D := D) (ci := 9) (v := .int (nI (cb L a1 k))) (C := RX9) (T := TX9) (N := 9) hx hb hts (inC ibX9) hown hG.1 hP 0 rfl rfl 1 (by decide) (hg _ k_42) (fun _ h9 => h9) rfl dX9_addBytes_74 ?_
            refine lv_iconst (v := 1) hx hb dX9_addBytes_77 (by decide) ?_
            refine m_iadd (v := ((nI (cb L a1 k)) + 1)) hx hb dX9_addBytes_78 rfl ?_
            refine lv_topi (fun f_7 ef_7 => ?_)
            refine va_put (D := D) (ci := 9) (v := .int f_7) (ty := .int) (C := RX9) (T := TX9) (N := 9) hx hb hts (inC ibX9) tyX9 tyX9_ok nmX9 hown hG.1 hP hD hS 0 rfl rfl 1 (by decide) (hg _ k_42) (fun _ h9 => h9) rfl (by decide +kernel) rfl rfl (Nat.le_of_ble_eq_true rfl) dX9_addBytes_79 (fun H locs hP hD hS => ?_)
            have hP : va_P D vwCl [(h0, .inr (9, [.ref q1, .int f_7, .int fa, .int ki, .int nu, .int sg, .long wo, .int ne, .int pl])), (q1, .inl (cy 0, 1000, .inl (upd f (nI (cb L a1 k)).toNatClampNeg (vp_nar .byte x4_3.toInt8.toInt32))))] H := hP
            have hD : va_D A [(h0, .inr (9, [.ref q1, .int f_7, .int fa, .int ki, .int nu, .int sg, .long wo, .int ne, .int pl])), (q1, .inl (cy 0, 1000, .inl (upd f (nI (cb L a1 k)).toNatClampNeg (vp_nar .byte x4_3.toInt8.toInt32))))] := hD
            obtain ⟨x3_8, ex3_8⟩ : ∃ y : Int32, y = x3 + (-8) := ⟨_, rfl⟩
            refine lv_iinc (v := x3_8) (lv' := [(3, .int x3_8), (5, .int 1), (4, .int x4_3), (0, .ref h0), (1, .long a1)]) hx hb dX9_addBytes_82 hl (k := 4) rfl (by rw [ex3_8]; rfl) (by decide) rfl (fun ls hl => ?_)
            refine lv_goto (tgt := 3) hx hb dX9_addBytes_85 (by decide) ?_
            have ec : f_7 = nI (cb L a1 (k + 1)) := by rw [ef_7]; show _ = nI (stp _ _); rw [stp_yes (by rw [← eb]; exact Or.inl c_4) hlt]; exact nI_1 _
            rw [ec] at hP hD
            have ef2 : upd f (nI (cb L a1 k)).toNatClampNeg (vp_nar .byte x4_3.toInt8.toInt32) = fb f0 L a1 (k + 1) := by rw [ef]; show _ = wst _ _ _; exact wst_yes (by rw [← eb]; exact Or.inl c_4) hlt (nI_clamp (by omega)) (by rw [eb]; exact nar_gd (by rw [← eb]; exact Or.inl c_4))
            exact ih (k + 1) x3_8 (upd f (nI (cb L a1 k)).toNatClampNeg (vp_nar .byte x4_3.toInt8.toInt32)) (by omega) hk8 (by rw [ex3_8, ex3]; rcases (show k = 0 ∨ k = 1 ∨ k = 2 ∨ k = 3 ∨ k = 4 ∨ k = 5 ∨ k = 6 ∨ k = 7 by omega) with h | h | h | h | h | h | h | h <;> subst h <;> decide) ef2 _ _ (hP.sub [0, 1] rfl) (hD.sub [0, 1] (by decide) rfl) hS ls (lv_sub hl [3, 4, 0] rfl)
        · refine lv_iload hx hb dX9_addBytes_24 (lv_at hl 0 rfl) ?_
          refine lv_bipush (v := 32) hx hb dX9_addBytes_26 (by decide) ?_
          refine lv_icmp_lt (tgt := 42) hx hb dX9_addBytes_28 (by decide) (fun c_9 => ?_) (fun c_9 => ?_)
          · refine lv_iconst (v := 0) hx hb dX9_addBytes_42 (by decide) ?_
            refine lv_istore (lv' := [(5, .int 0), (4, .int x4_3), (0, .ref h0), (1, .long a1), (3, .int x3)]) hx hb dX9_addBytes_43 hl (by decide) rfl (fun ls hl => ?_)
            refine lv_iload hx hb dX9_addBytes_45 (lv_at hl 0 rfl) ?_
            refine lv_if_eq (tgt := 82) hx hb dX9_addBytes_47 (by decide) (fun _ => ?_) (fun c_ => absurd rfl c_)
            obtain ⟨x3_10, ex3_10⟩ : ∃ y : Int32, y = x3 + (-8) := ⟨_, rfl⟩
            refine lv_iinc (v := x3_10) (lv' := [(3, .int x3_10), (5, .int 0), (4, .int x4_3), (0, .ref h0), (1, .long a1)]) hx hb dX9_addBytes_82 hl (k := 4) rfl (by rw [ex3_10]; rfl) (by decide) rfl (fun ls hl => ?_)
            refine lv_goto (tgt := 3) hx hb dX9_addBytes_85 (by decide) ?_
            have ec : nI (cb L a1 k) = nI (cb L a1 (k + 1)) := by show _ = nI (stp _ _); rw [stp_no (by rw [← eb]; exact fun q => q.elim c_4 (fun q => absurd c_9 (le_nlt q.1)))]
            rw [ec] at hP hD
            have ef2 : f = fb f0 L a1 (k + 1) := by rw [ef]; show _ = wst _ _ _; exact wst_no (by rw [← eb]; exact fun q => q.elim c_4 (fun q => absurd c_9 (le_nlt q.1)))
            exact ih (k + 1) x3_10 f (by omega) hk8 (by rw [ex3_10, ex3]; rcases (show k = 0 ∨ k = 1 ∨ k = 2 ∨ k = 3 ∨ k = 4 ∨ k = 5 ∨ k = 6 ∨ k = 7 by omega) with h | h | h | h | h | h | h | h <;> subst h <;> decide) ef2 _ _ (hP.sub [0, 1] rfl) (hD.sub [0, 1] (by decide) rfl) hS ls (lv_sub hl [3, 4, 0] rfl)
          · refine lv_iload hx hb dX9_addBytes_31 (lv_at hl 0 rfl) ?_
            refine lv_bipush (v := 126) hx hb dX9_addBytes_33 (by decide) ?_
            refine lv_icmp_gt (tgt := 42) hx hb dX9_addBytes_35 (by decide) (fun c_11 => ?_) (fun c_11 => ?_)
            · refine lv_iconst (v := 0) hx hb dX9_addBytes_42 (by decide) ?_
              refine lv_istore (lv' := [(5, .int 0), (4, .int x4_3), (0, .ref h0), (1, .long a1), (3, .int x3)]) hx hb dX9_addBytes_43 hl (by decide) rfl (fun ls hl => ?_)
              refine lv_iload hx hb dX9_addBytes_45 (lv_at hl 0 rfl) ?_
              refine lv_if_eq (tgt := 82) hx hb dX9_addBytes_47 (by decide) (fun _ => ?_) (fun c_ => absurd rfl c_)
              obtain ⟨x3_12, ex3_12⟩ : ∃ y : Int32, y = x3 + (-8) := ⟨_, rfl⟩
              refine lv_iinc (v := x3_12) (lv' := [(3, .int x3_12), (5, .int 0), (4, .int x4_3), (0, .ref h0), (1, .long a1)]) hx hb dX9_addBytes_82 hl (k := 4) rfl (by rw [ex3_12]; rfl) (by decide) rfl (fun ls hl => ?_)
              refine lv_goto (tgt := 3) hx hb dX9_addBytes_85 (by decide) ?_
              have ec : nI (cb L a1 k) = nI (cb L a1 (k + 1)) := by show _ = nI (stp _ _); rw [stp_no (by rw [← eb]; exact fun q => q.elim c_4 (fun q => absurd c_11 (le_nlt q.2)))]
              rw [ec] at hP hD
              have ef2 : f = fb f0 L a1 (k + 1) := by rw [ef]; show _ = wst _ _ _; exact wst_no (by rw [← eb]; exact fun q => q.elim c_4 (fun q => absurd c_11 (le_nlt q.2)))
              exact ih (k + 1) x3_12 f (by omega) hk8 (by rw [ex3_12, ex3]; rcases (show k = 0 ∨ k = 1 ∨ k = 2 ∨ k = 3 ∨ k = 4 ∨ k = 5 ∨ k = 6 ∨ k = 7 by omega) with h | h | h | h | h | h | h | h <;> subst h <;> decide) ef2 _ _ (hP.sub [0, 1] rfl) (hD.sub [0, 1] (by decide) rfl) hS ls (lv_sub hl [3, 4, 0] rfl)
            · refine lv_iconst (v := 1) hx hb dX9_addBytes_38 (by decide) ?_
              refine lv_goto (tgt := 43) hx hb dX9_addBytes_39 (by decide) ?_
              refine lv_istore (lv' := [(5, .int 1), (4, .int x4_3), (0, .ref h0), (1, .long a1), (3, .int x3)]) hx hb dX9_addBytes_43 hl (by decide) rfl (fun ls hl => ?_)
              refine lv_iload hx hb dX9_addBytes_45 (lv_at hl 0 rfl) ?_
              refine lv_if_eq (tgt := 82) hx hb dX9_addBytes_47 (by decide) (fun c_ => absurd c_ (by decide)) (fun _ => ?_)
              refine lv_aload_n hx hb dX9_addBytes_50 rfl (lv_at hl 2 rfl) ?_
              refine va_get (D := D) (ci := 9) (v := .int (nI (cb L a1 k))) (C := RX9) (T := TX9) (N := 9) hx hb hts (inC ibX9) hown hG.1 hP 0 rfl rfl 1 (by decide) (hg _ k_42) (fun _ h9 => h9) rfl dX9_addBytes_51 ?_
              refine lv_sipush (v := 1000) hx hb dX9_addBytes_54 (by decide) ?_
              refine lv_icmp_ge (tgt := 82) hx hb dX9_addBytes_57 (by decide) (fun c_13 => ?_) (fun c_13 => ?_)
              · obtain ⟨x3_14, ex3_14⟩ : ∃ y : Int32, y = x3 + (-8) := ⟨_, rfl⟩
                refine lv_iinc (v := x3_14) (lv' := [(3, .int x3_14), (5, .int 1), (4, .int x4_3), (0, .ref h0), (1, .long a1)]) hx hb dX9_addBytes_82 hl (k := 4) rfl (by rw [ex3_14]; rfl) (by decide) rfl (fun ls hl => ?_)
                refine lv_goto (tgt := 3) hx hb dX9_addBytes_85 (by decide) ?_
                have ec : nI (cb L a1 k) = nI (cb L a1 (k + 1)) := by show _ = nI (stp _ _); rw [stp_full (nI_ge1000 (cb_le a1 hL k) c_13)]
                rw [ec] at hP hD
                have ef2 : f = fb f0 L a1 (k + 1) := by rw [ef]; show _ = wst _ _ _; exact wst_full (nI_ge1000 (cb_le a1 hL k) c_13)
                exact ih (k + 1) x3_14 f (by omega) hk8 (by rw [ex3_14, ex3]; rcases (show k = 0 ∨ k = 1 ∨ k = 2 ∨ k = 3 ∨ k = 4 ∨ k = 5 ∨ k = 6 ∨ k = 7 by omega) with h | h | h | h | h | h | h | h <;> subst h <;> decide) ef2 _ _ (hP.sub [0, 1] rfl) (hD.sub [0, 1] (by decide) rfl) hS ls (lv_sub hl [3, 4, 0] rfl)
              · have hlt : cb L a1 k < 1000 := nI_lt1000 (cb_le a1 hL k) c_13
                refine lv_aload_n hx hb dX9_addBytes_60 rfl (lv_at hl 2 rfl) ?_
                refine va_get (D := D) (ci := 9) (v := .ref q1) (C := RX9) (T := TX9) (N := 9) hx hb hts (inC ibX9) hown hG.1 hP 0 rfl rfl 0 (by decide) (hg _ k_41) (fun _ h9 => h9) rfl dX9_addBytes_61 ?_
                refine lv_aload_n hx hb dX9_addBytes_64 rfl (lv_at hl 2 rfl) ?_
                refine va_get (D := D) (ci := 9) (v := .int (nI (cb L a1 k))) (C := RX9) (T := TX9) (N := 9) hx hb hts (inC ibX9) hown hG.1 hP 0 rfl rfl 1 (by decide) (hg _ k_42) (fun _ h9 => h9) rfl dX9_addBytes_65 ?_
                refine lv_iload hx hb dX9_addBytes_68 (lv_at hl 1 rfl) ?_
                refine lv_i2b (v := x4_3.toInt8.toInt32) hx hb dX9_addBytes_70 rfl ?_
                refine m_bast (g := upd f (nI (cb L a1 k)).toNatClampNeg (vp_nar .byte x4_3.toInt8.toInt32)) hx hb hG hP hD hS 1 rfl (vp_in_nI hlt (by decide)) dX9_addBytes_71 rfl (fun H locs hP hD hS => ?_)
                have hP : va_P D vwCl [(h0, .inr (9, [.ref q1, .int (nI (cb L a1 k)), .int fa, .int ki, .int nu, .int sg, .long wo, .int ne, .int pl])), (q1, .inl (cy 0, 1000, .inl (upd f (nI (cb L a1 k)).toNatClampNeg (vp_nar .byte x4_3.toInt8.toInt32))))] H := hP
                have hD : va_D A [(h0, .inr (9, [.ref q1, .int (nI (cb L a1 k)), .int fa, .int ki, .int nu, .int sg, .long wo, .int ne, .int pl])), (q1, .inl (cy 0, 1000, .inl (upd f (nI (cb L a1 k)).toNatClampNeg (vp_nar .byte x4_3.toInt8.toInt32))))] := hD
                refine lv_aload_n hx hb dX9_addBytes_72 rfl (lv_at hl 2 rfl) ?_
                refine lv_dup hx hb dX9_addBytes_73 rfl ?_
                refine va_get (D := D) (ci := 9) (v := .int (nI (cb L a1 k))) (C := RX9) (T := TX9) (N := 9) hx hb hts (inC ibX9) hown hG.1 hP 0 rfl rfl 1 (by decide) (hg _ k_42) (fun _ h9 => h9) rfl dX9_addBytes_74 ?_
                refine lv_iconst (v := 1) hx hb dX9_addBytes_77 (by decide) ?_
                refine m_iadd (v := ((nI (cb L a1 k)) + 1)) hx hb dX9_addBytes_78 rfl ?_
                refine lv_topi (fun f_15 ef_15 => ?_)
                refine va_put (D := D) (ci := 9) (v := .int f_15) (ty := .int) (C := RX9) (T := TX9) (N := 9) hx hb hts (inC ibX9) tyX9 tyX9_ok nmX9 hown hG.1 hP hD hS 0 rfl rfl 1 (by decide) (hg _ k_42) (fun _ h9 => h9) rfl (by decide +kernel) rfl rfl (Nat.le_of_ble_eq_true rfl) dX9_addBytes_79 (fun H locs hP hD hS => ?_)
                have hP : va_P D vwCl [(h0, .inr (9, [.ref q1, .int f_15, .int fa, .int ki, .int nu, .int sg, .long wo, .int ne, .int pl])), (q1, .inl (cy 0, 1000, .inl (upd f (nI (cb L a1 k)).toNatClampNeg (vp_nar .byte x4_3.toInt8.toInt32))))] H := hP
                have hD : va_D A [(h0, .inr (9, [.ref q1, .int f_15, .int fa, .int ki, .int nu, .int sg, .long wo, .int ne, .int pl])), (q1, .inl (cy 0, 1000, .inl (upd f (nI (cb L a1 k)).toNatClampNeg (vp_nar .byte x4_3.toInt8.toInt32))))] := hD
                obtain ⟨x3_16, ex3_16⟩ : ∃ y : Int32, y = x3 + (-8) := ⟨_, rfl⟩
                refine lv_iinc (v := x3_16) (lv' := [(3, .int x3_16), (5, .int 1), (4, .int x4_3), (0, .ref h0), (1, .long a1)]) hx hb dX9_addBytes_82 hl (k := 4) rfl (by rw [ex3_16]; rfl) (by decide) rfl (fun ls hl => ?_)
                refine lv_goto (tgt := 3) hx hb dX9_addBytes_85 (by decide) ?_
                have ec : f_15 = nI (cb L a1 (k + 1)) := by rw [ef_15]; show _ = nI (stp _ _); rw [stp_yes (by rw [← eb]; exact Or.inr ⟨nlt_le c_9, nlt_le c_11⟩) hlt]; exact nI_1 _
                rw [ec] at hP hD
                have ef2 : upd f (nI (cb L a1 k)).toNatClampNeg (vp_nar .byte x4_3.toInt8.toInt32) = fb f0 L a1 (k + 1) := by rw [ef]; show _ = wst _ _ _; exact wst_yes (by rw [← eb]; exact Or.inr ⟨nlt_le c_9, nlt_le c_11⟩) hlt (nI_clamp (by omega)) (by rw [eb]; exact nar_gd (by rw [← eb]; exact Or.inr ⟨nlt_le c_9, nlt_le c_11⟩))
                exact ih (k + 1) x3_16 (upd f (nI (cb L a1 k)).toNatClampNeg (vp_nar .byte x4_3.toInt8.toInt32)) (by omega) hk8 (by rw [ex3_16, ex3]; rcases (show k = 0 ∨ k = 1 ∨ k = 2 ∨ k = 3 ∨ k = 4 ∨ k = 5 ∨ k = 6 ∨ k = 7 by omega) with h | h | h | h | h | h | h | h <;> subst h <;> decide) ef2 _ _ (hP.sub [0, 1] rfl) (hD.sub [0, 1] (by decide) rfl) hS ls (lv_sub hl [3, 4, 0] rfl)
  exact LP_1 _ 0 56 f0 (Nat.lt_succ_self _) (by decide) rfl rfl _ _ (hP.sub [0, 1] rfl) (hD.sub [0, 1] (by decide) rfl) hS ls (lv_sub hl [1, 2, 0] rfl)
set_option maxHeartbeats 4000000 in
set_option maxRecDepth 100000 in
theorem c_X12_feed (l : Launch) (D : va_G) (cy : Nat → ClassId) (h0 : Nat) (q_1 : Nat) (m_0 : Int32) (F : List Value) (T : Nat) (f0 : Nat → Int32) (a1 : Int64) (a2 : Int64) (a3 : Int64) (sz : Nat) (hT : T ≤ 1000) : Met l yX12_feed (Cond.code yX12_feed cX12_feed 11 (some .int) :: bigG) ({ frames := 0, cells := 0, slots := 0, locals := 0 }) (pre D cy [.ref h0, .long a1, .long a2, .long a3] sz [(h0, .inr (12, (.int m_0 :: .int (nI T) :: .ref q_1 :: F))), (q_1, .inl (cy 1, 1000, .inl f0))]) (qi (fun r h => r = nI (cb (cb (cb T a1 8) a2 8) a3 8) ∧ va_P D vwCl [(h0, .inr (12, (.int 0 :: .int (nI (cb (cb (cb T a1 8) a2 8) a3 8)) :: .ref q_1 :: F))), (q_1, .inl (cy 1, 1000, .inl (fb (fb (fb f0 T a1 8) (cb T a1 8) a2 8) (cb (cb T a1 8) a2 8) a3 8)))] h ∧ va_D (va_A [(h0, .inr (12, (.int m_0 :: .int (nI T) :: .ref q_1 :: F))), (q_1, .inl (cy 1, 1000, .inl f0))] sz) [(h0, .inr (12, (.int 0 :: .int (nI (cb (cb (cb T a1 8) a2 8) a3 8)) :: .ref q_1 :: F))), (q_1, .inl (cy 1, 1000, .inl (fb (fb (fb f0 T a1 8) (cb T a1 8) a2 8) (cb (cb T a1 8) a2 8) a3 8)))]) (va_A [(h0, .inr (12, (.int m_0 :: .int (nI T) :: .ref q_1 :: F))), (q_1, .inl (cy 1, 1000, .inl f0))] sz)) 0 0 (va_A [(h0, .inr (12, (.int m_0 :: .int (nI T) :: .ref q_1 :: F))), (q_1, .inl (cy 1, 1000, .inl f0))] sz) := by
  refine Met.ofW (cc := cX12_feed) (maxL := 11) (ret := (some .int)) (by decide) rfl ?_
  intro p e s m args below meth c s₁ B hml hv
  obtain ⟨rfl, hsz, hP, hG, hD0⟩ := hv
  have hx := B.exec
  have hb := B.bytes
  have hr := B.returns
  have hts := atoms_spec (ws := (Cond.code yX12_feed cX12_feed 11 (some .int) :: bigG)) B.pre
  have hg : ∀ w ∈ bigG, w.before ([.ref h0, .long a1, .long a2, .long a3] : List Value).toArray s = true := fun w h => hts w (List.mem_cons_of_mem _ h)
  have hown : s.vm.findClass RX12 = some m.cls := findClass_of_methodNamed B.named
  have hlocks := B.notSynchronized
  subst hsz
  have hD := hD0.self (sz := s.heap.size)
  generalize hAe : va_A [(h0, .inr (12, (.int m_0 :: .int (nI T) :: .ref q_1 :: F))), (q_1, .inl (cy 1, 1000, .inl f0))] s.heap.size = A at hD ⊢
  have hA : ∀ q : Nat, s.heap.size ≤ q → A q := fun q h => by rw [← hAe]; exact Or.inr h
  have hS : va_S A s.heap s.heap [] := va_S.rf
  have hP : va_P D vwCl [(h0, .inr (12, (.int m_0 :: .int (nI T) :: .ref q_1 :: F))), (q_1, .inl (cy 1, 1000, .inl f0))] s.heap := hP
  have hl := lv_entry ([.ref h0, .long a1, .long a2, .long a3]) (n := 11) (Nat.le_of_ble_eq_true rfl)
  rw [lg_entry_eq]
  generalize (lg_sl ([.ref h0, .long a1, .long a2, .long a3]) ++ List.replicate (11 - (lg_sl ([.ref h0, .long a1, .long a2, .long a3])).length) Slot.unset).toArray = ls at hl ⊢
  have hl : lv_has ls 11 [(0, .ref h0), (1, .long a1), (3, .long a2), (5, .long a3)] := hl
  refine w_nm (fun Q hQ => ?_)
  refine lv_aload_n hx hb dX12_feed_0 rfl (lv_at hl 0 rfl) ?_
  refine lv_iconst (v := 0) hx hb dX12_feed_1 (by decide) ?_
  refine va_put (D := D) (ci := 12) (v := .int 0) (ty := .int) (C := RX12) (T := TX12) (N := 67) hx hb hts (inC ibX12) tyX12 tyX12_ok nmX12 hown hG.1 hP hD hS 0 rfl rfl 0 (by decide) (hg _ k_1315) (fun _ h9 => h9) rfl (by decide +kernel) rfl rfl (Nat.le_of_ble_eq_true rfl) dX12_feed_2 (fun H locs hP hD hS => ?_)
  have hP : va_P D vwCl [(h0, .inr (12, (.int 0 :: .int (nI T) :: .ref q_1 :: F))), (q_1, .inl (cy 1, 1000, .inl f0))] H := hP
  have hD : va_D A [(h0, .inr (12, (.int 0 :: .int (nI T) :: .ref q_1 :: F))), (q_1, .inl (cy 1, 1000, .inl f0))] := hD
  refine lv_iconst (v := 0) hx hb dX12_feed_5 (by decide) ?_
  refine lv_istore (lv' := [(7, .int 0), (0, .ref h0), (1, .long a1), (3, .long a2), (5, .long a3)]) hx hb dX12_feed_6 hl (by decide) rfl (fun ls hl => ?_)
  have LP_1 : ∀ (n_ : Nat) (k : Nat) (x7 : Int32) (f : Nat → Int32), 24 - k < n_ → k ≤ 24 → x7 = nI k → f = fbw f0 T a1 a2 a3 k → ∀ (H : Heap) (locs : List Loc), va_P D vwCl [(h0, .inr (12, (.int 0 :: .int (nI (cm T a1 a2 a3 k)) :: .ref q_1 :: F))), (q_1, .inl (cy 1, 1000, .inl f))] H → va_D A [(h0, .inr (12, (.int 0 :: .int (nI (cm T a1 a2 a3 k)) :: .ref q_1 :: F))), (q_1, .inl (cy 1, 1000, .inl f))] → va_S A s.heap H locs → ∀ (ls : Array Slot), lv_has ls 11 [(0, .ref h0), (1, .long a1), (3, .long a2), (5, .long a3), (7, .int x7)] → W p l e (headSpec (Cond.code yX12_feed cX12_feed 11 (some .int) :: bigG) { frames := 0, cells := 0, slots := 0, locals := 0 }).room s m ([.ref h0, .long a1, .long a2, .long a3] : List Value).toArray below meth c H locs 0 0 Q (F0 m 8 ls []) := by
    intro n_
    induction n_ with
    | zero => intro k x7 f hm_; exact absurd hm_ (Nat.not_lt_zero _)
    | succ n_ ih =>
      intro k x7 f hm_ hk ex7 ef H locs hP hD hS ls hl
      refine lv_iload hx hb dX12_feed_8 (lv_at hl 4 rfl) ?_
      refine lv_bipush (v := 24) hx hb dX12_feed_10 (by decide) ?_
      refine lv_icmp_ge (tgt := 120) hx hb dX12_feed_12 (by decide) (fun c_2 => ?_) (fun c_2 => ?_)
      · have hk9 : k = 24 := Nat.le_antisymm hk (Nat.le_of_not_lt fun q => absurd c_2 (by rw [ex7]; exact nI_ge (b := 24) q (by decide)))
        rw [hk9] at hP hD ef
        rw [fbw_fb] at ef
        subst ef
        refine lv_aload_n hx hb dX12_feed_120 rfl (lv_at hl 0 rfl) ?_
        refine va_get (D := D) (ci := 12) (v := .int (nI (cm T a1 a2 a3 24))) (C := RX12) (T := TX12) (N := 67) hx hb hts (inC ibX12) hown hG.1 hP 0 rfl rfl 1 (by decide) (hg _ k_1316) (fun _ h9 => h9) rfl dX12_feed_121 ?_
        have hP9 := hP.sub (ws' := [(h0, .inr (12, (.int 0 :: .int (nI (cm T a1 a2 a3 24)) :: .ref q_1 :: F))), (q_1, .inl (cy 1, 1000, .inl (fb (fb (fb f0 T a1 8) (cb T a1 8) a2 8) (cb (cb T a1 8) a2 8) a3 8)))]) [0, 1] rfl
        have hD9 := hD.sub (ws' := [(h0, .inr (12, (.int 0 :: .int (nI (cm T a1 a2 a3 24)) :: .ref q_1 :: F))), (q_1, .inl (cy 1, 1000, .inl (fb (fb (fb f0 T a1 8) (cb T a1 8) a2 8) (cb (cb T a1 8) a2 8) a3 8)))]) [0, 1] (by decide) rfl
        subst hQ
        exact W.iret (v := nI (cm T a1 a2 a3 24)) hx hb hr (fun t ht hW => qi_mk (by rw [ht]; exact ⟨(congrArg nI (cm_cb T a1 a2 a3)), hP9, hD9⟩) (hS.F ht)) hS.2.2 dX12_feed_124
      · have hk24 : k < 24 := Nat.lt_of_not_le fun q => c_2 (by rw [ex7]; exact nI_le (a := 24) q (by omega))
        refine lv_iload hx hb dX12_feed_15 (lv_at hl 4 rfl) ?_
        refine lv_bipush (v := 8) hx hb dX12_feed_17 (by decide) ?_
        refine lv_icmp_ge (tgt := 26) hx hb dX12_feed_19 (by decide) (fun c_3 => ?_) (fun c_3 => ?_)
        · refine lv_iload hx hb dX12_feed_26 (lv_at hl 4 rfl) ?_
          refine lv_bipush (v := 16) hx hb dX12_feed_28 (by decide) ?_
          refine lv_icmp_ge (tgt := 37) hx hb dX12_feed_30 (by decide) (fun c_4 => ?_) (fun c_4 => ?_)
          · refine lv_lload hx hb dX12_feed_37 (lv_at hl 3 rfl) ?_
            refine lv_lstore (lv' := [(8, .long a3), (0, .ref h0), (1, .long a1), (3, .long a2), (5, .long a3), (7, .int x7)]) hx hb dX12_feed_39 hl (by decide) rfl (fun ls hl => ?_)
            refine lv_lload hx hb dX12_feed_41 (lv_at hl 0 rfl) ?_
            refine lv_bipush (v := 56) hx hb dX12_feed_43 (by decide) ?_
            refine lv_bipush (v := 8) hx hb dX12_feed_45 (by decide) ?_
            refine lv_iload hx hb dX12_feed_47 (lv_at hl 5 rfl) ?_
            refine lv_bipush (v := 7) hx hb dX12_feed_49 (by decide) ?_
            refine m_iand (v := (x7 &&& 7)) hx hb dX12_feed_51 rfl ?_
            refine m_imul (v := (8 * (x7 &&& 7))) hx hb dX12_feed_52 rfl ?_
            refine m_isub (v := (56 - (8 * (x7 &&& 7)))) hx hb dX12_feed_53 rfl ?_
            refine lv_lushr (v := (a3.toUInt64 >>> ((56 - (8 * (x7 &&& 7))).toInt64.toUInt64 &&& Int64.toUInt64 63)).toInt64) hx hb dX12_feed_54 rfl ?_
            refine lv_ldc2 (v := 255) hx hb hown (hg _ k_1525) dX12_feed_55 ?_
            refine m_land (v := (((a3.toUInt64 >>> ((56 - (8 * (x7 &&& 7))).toInt64.toUInt64 &&& Int64.toUInt64 63)).toInt64) &&& 255)) hx hb dX12_feed_58 rfl ?_
            refine lv_l2i (v := (((a3.toUInt64 >>> ((56 - (8 * (x7 &&& 7))).toInt64.toUInt64 &&& Int64.toUInt64 63)).toInt64) &&& 255).toInt32) hx hb dX12_feed_59 rfl ?_
            refine lv_topi (fun x10_5 ex10_5 => ?_)
            refine lv_istore (lv' := [(10, .int x10_5), (8, .long a3), (0, .ref h0), (1, .long a1), (3, .long a2), (5, .long a3), (7, .int x7)]) hx hb dX12_feed_60 hl (by decide) rfl (fun ls hl => ?_)
            have epk : pck a1 a2 a3 k = a3 := (if_neg (fun q => absurd c_3 (by rw [ex7]; exact nI_ge (b := 8) q (by decide)))).trans (if_neg (fun q => absurd c_4 (by rw [ex7]; exact nI_ge (b := 16) q (by decide))))
            have eb : x10_5 = byt (pck a1 a2 a3 k) (k % 8) := by rw [ex10_5, epk, ex7, pk_andN (by omega) 3 rfl, show (8 : Int32) = nI 8 from rfl, pk_mul, e56 (Nat.mod_lt k (by decide))]; rfl
            refine lv_aload_n hx hb dX12_feed_62 rfl (lv_at hl 2 rfl) ?_
            refine va_get (D := D) (ci := 12) (v := .int (nI (cm T a1 a2 a3 k))) (C := RX12) (T := TX12) (N := 67) hx hb hts (inC ibX12) hown hG.1 hP 0 rfl rfl 1 (by decide) (hg _ k_1316) (fun _ h9 => h9) rfl dX12_feed_63 ?_
            refine lv_sipush (v := 1000) hx hb dX12_feed_66 (by decide) ?_
            refine lv_icmp_ge (tgt := 114) hx hb dX12_feed_69 (by decide) (fun c_6 => ?_) (fun c_6 => ?_)
            · obtain ⟨x7_7, ex7_7⟩ : ∃ y : Int32, y = x7 + 1 := ⟨_, rfl⟩
              refine lv_iinc (v := x7_7) (lv' := [(7, .int x7_7), (10, .int x10_5), (8, .long a3), (0, .ref h0), (1, .long a1), (3, .long a2), (5, .long a3)]) hx hb dX12_feed_114 hl (k := 6) rfl (by rw [ex7_7]; rfl) (by decide) rfl (fun ls hl => ?_)
              refine lv_goto (tgt := 8) hx hb dX12_feed_117 (by decide) ?_
              have ec : nI (cm T a1 a2 a3 k) = nI (cm T a1 a2 a3 (k + 1)) := by show _ = nI (stp _ _); rw [stp_full (nI_ge1000 (cm_le a1 a2 a3 hT k) c_6)]
              rw [ec] at hP hD
              have ef2 : f = fbw f0 T a1 a2 a3 (k + 1) := by rw [ef]; show _ = wst _ _ _; exact wst_full (nI_ge1000 (cm_le a1 a2 a3 hT k) c_6)
              exact ih (k + 1) x7_7 f (by omega) hk24 (by rw [ex7_7, ex7]; exact nI_1 k) ef2 _ _ (hP.sub [0, 1] rfl) (hD.sub [0, 1] (by decide) rfl) hS ls (lv_sub hl [3, 4, 5, 6, 0] rfl)
            · have hlt : cm T a1 a2 a3 k < 1000 := nI_lt1000 (cm_le a1 a2 a3 hT k) c_6
              refine lv_iload hx hb dX12_feed_72 (lv_at hl 0 rfl) ?_
              refine lv_bipush (v := 10) hx hb dX12_feed_74 (by decide) ?_
              refine lv_icmp_eq (tgt := 93) hx hb dX12_feed_76 (by decide) (fun c_8 => ?_) (fun c_8 => ?_)
              · refine lv_aload_n hx hb dX12_feed_93 rfl (lv_at hl 2 rfl) ?_
                refine va_get (D := D) (ci := 12) (v := .ref q_1) (C := RX12) (T := TX12) (N := 67) hx hb hts (inC ibX12) hown hG.1 hP 0 rfl rfl 2 (by decide) (hg _ k_1317) (fun _ h9 => h9) rfl dX12_feed_94 ?_
                refine lv_aload_n hx hb dX12_feed_97 rfl (lv_at hl 2 rfl) ?_
                refine va_get (D := D) (ci := 12) (v := .int (nI (cm T a1 a2 a3 k))) (C := RX12) (T := TX12) (N := 67) hx hb hts (inC ibX12) hown hG.1 hP 0 rfl rfl 1 (by decide) (hg _ k_1316) (fun _ h9 => h9) rfl dX12_feed_98 ?_
                refine lv_iload hx hb dX12_feed_101 (lv_at hl 0 rfl) ?_
                refine m_iast (g := upd f (nI (cm T a1 a2 a3 k)).toNatClampNeg x10_5) hx hb hG hP hD hS 1 rfl (vp_in_nI hlt (by decide)) dX12_feed_103 rfl (fun H locs hP hD hS => ?_)
                have hP : va_P D vwCl [(h0, .inr (12, (.int 0 :: .int (nI (cm T a1 a2 a3 k)) :: .ref q_1 :: F))), (q_1, .inl (cy 1, 1000, .inl (upd f (nI (cm T a1 a2 a3 k)).toNatClampNeg x10_5)))] H := hP
                have hD : va_D A [(h0, .inr (12, (.int 0 :: .int (nI (cm T a1 a2 a3 k)) :: .ref q_1 :: F))), (q_1, .inl (cy 1, 1000, .inl (upd f (nI (cm T a1 a2 a3 k)).toNatClampNeg x10_5)))] := hD
                refine lv_aload_n hx hb dX12_feed_104 rfl (lv_at hl 2 rfl) ?_
                refine lv_dup hx hb dX12_feed_105 rfl ?_
                refine va_get (D := D) (ci := 12) (v := .int (nI (cm T a1 a2 a3 k))) (C := RX12) (T := TX12) (N := 67) hx hb hts (inC ibX12) hown hG.1 hP 0 rfl rfl 1 (by decide) (hg _ k_1316) (fun _ h9 => h9) rfl dX12_feed_106 ?_
                refine lv_iconst (v := 1) hx hb dX12_feed_109 (by decide) ?_
                refine m_iadd (v := ((nI (cm T a1 a2 a3 k)) + 1)) hx hb dX12_feed_110 rfl ?_
                refine lv_topi (fun f_9 ef_9 => ?_)
                refine va_put (D := D) (ci := 12) (v := .int f_9) (ty := .int) (C := RX12) (T := TX12) (N := 67) hx hb hts (inC ibX12) tyX12 tyX12_ok nmX12 hown hG.1 hP hD hS 0 rfl rfl 1 (by decide) (hg _ k_1316) (fun _ h9 => h9) rfl (by decide +kernel) rfl rfl (Nat.le_of_ble_eq_true rfl) dX12_feed_111 (fun H locs hP hD hS => ?_)
                have hP : va_P D vwCl [(h0, .inr (12, (.int 0 :: .int f_9 :: .ref q_1 :: F))), (q_1, .inl (cy 1, 1000, .inl (upd f (nI (cm T a1 a2 a3 k)).toNatClampNeg x10_5)))] H := hP
                have hD : va_D A [(h0, .inr (12, (.int 0 :: .int f_9 :: .ref q_1 :: F))), (q_1, .inl (cy 1, 1000, .inl (upd f (nI (cm T a1 a2 a3 k)).toNatClampNeg x10_5)))] := hD
                obtain ⟨x7_10, ex7_10⟩ : ∃ y : Int32, y = x7 + 1 := ⟨_, rfl⟩
                refine lv_iinc (v := x7_10) (lv' := [(7, .int x7_10), (10, .int x10_5), (8, .long a3), (0, .ref h0), (1, .long a1), (3, .long a2), (5, .long a3)]) hx hb dX12_feed_114 hl (k := 6) rfl (by rw [ex7_10]; rfl) (by decide) rfl (fun ls hl => ?_)
                refine lv_goto (tgt := 8) hx hb dX12_feed_117 (by decide) ?_
                have ec : f_9 = nI (cm T a1 a2 a3 (k + 1)) := by rw [ef_9]; show _ = nI (stp _ _); rw [stp_yes (by rw [← eb]; exact Or.inl c_8) hlt]; exact nI_1 _
                rw [ec] at hP hD
                have ef2 : upd f (nI (cm T a1 a2 a3 k)).toNatClampNeg x10_5 = fbw f0 T a1 a2 a3 (k + 1) := by rw [ef]; show _ = wst _ _ _; exact wst_yes (by rw [← eb]; exact Or.inl c_8) hlt (nI_clamp (by omega)) eb
                exact ih (k + 1) x7_10 (upd f (nI (cm T a1 a2 a3 k)).toNatClampNeg x10_5) (by omega) hk24 (by rw [ex7_10, ex7]; exact nI_1 k) ef2 _ _ (hP.sub [0, 1] rfl) (hD.sub [0, 1] (by decide) rfl) hS ls (lv_sub hl [3, 4, 5, 6, 0] rfl)
              · refine lv_iload hx hb dX12_feed_79 (lv_at hl 0 rfl) ?_
                refine lv_bipush (v := 32) hx hb dX12_feed_81 (by decide) ?_
                refine lv_icmp_lt (tgt := 114) hx hb dX12_feed_83 (by decide) (fun c_11 => ?_) (fun c_11 => ?_)
                · obtain ⟨x7_12, ex7_12⟩ : ∃ y : Int32, y = x7 + 1 := ⟨_, rfl⟩
                  refine lv_iinc (v := x7_12) (lv' := [(7, .int x7_12), (10, .int x10_5), (8, .long a3), (0, .ref h0), (1, .long a1), (3, .long a2), (5, .long a3)]) hx hb dX12_feed_114 hl (k := 6) rfl (by rw [ex7_12]; rfl) (by decide) rfl (fun ls hl => ?_)
                  refine lv_goto (tgt := 8) hx hb dX12_feed_117 (by decide) ?_
                  have ec : nI (cm T a1 a2 a3 k) = nI (cm T a1 a2 a3 (k + 1)) := by show _ = nI (stp _ _); rw [stp_no (by rw [← eb]; exact fun q => q.elim c_8 (fun q => absurd c_11 (le_nlt q.1)))]
                  rw [ec] at hP hD
                  have ef2 : f = fbw f0 T a1 a2 a3 (k + 1) := by rw [ef]; show _ = wst _ _ _; exact wst_no (by rw [← eb]; exact fun q => q.elim c_8 (fun q => absurd c_11 (le_nlt q.1)))
                  exact ih (k + 1) x7_12 f (by omega) hk24 (by rw [ex7_12, ex7]; exact nI_1 k) ef2 _ _ (hP.sub [0, 1] rfl) (hD.sub [0, 1] (by decide) rfl) hS ls (lv_sub hl [3, 4, 5, 6, 0] rfl)
                · refine lv_iload hx hb dX12_feed_86 (lv_at hl 0 rfl) ?_
                  refine lv_bipush (v := 126) hx hb dX12_feed_88 (by decide) ?_
                  refine lv_icmp_gt (tgt := 114) hx hb dX12_feed_90 (by decide) (fun c_13 => ?_) (fun c_13 => ?_)
                  · obtain ⟨x7_14, ex7_14⟩ : ∃ y : Int32, y = x7 + 1 := ⟨_, rfl⟩
                    refine lv_iinc (v := x7_14) (lv' := [(7, .int x7_14), (10, .int x10_5), (8, .long a3), (0, .ref h0), (1, .long a1), (3, .long a2), (5, .long a3)]) hx hb dX12_feed_114 hl (k := 6) rfl (by rw [ex7_14]; rfl) (by decide) rfl (fun ls hl => ?_)
                    refine lv_goto (tgt := 8) hx hb dX12_feed_117 (by decide) ?_
                    have ec : nI (cm T a1 a2 a3 k) = nI (cm T a1 a2 a3 (k + 1)) := by show _ = nI (stp _ _); rw [stp_no (by rw [← eb]; exact fun q => q.elim c_8 (fun q => absurd c_13 (le_nlt q.2)))]
                    rw [ec] at hP hD
                    have ef2 : f = fbw f0 T a1 a2 a3 (k + 1) := by rw [ef]; show _ = wst _ _ _; exact wst_no (by rw [← eb]; exact fun q => q.elim c_8 (fun q => absurd c_13 (le_nlt q.2)))
                    exact ih (k + 1) x7_14 f (by omega) hk24 (by rw [ex7_14, ex7]; exact nI_1 k) ef2 _ _ (hP.sub [0, 1] rfl) (hD.sub [0, 1] (by decide) rfl) hS ls (lv_sub hl [3, 4, 5, 6, 0] rfl)
                  · refine lv_aload_n hx hb dX12_feed_93 rfl (lv_at hl 2 rfl) ?_
                    refine va_get (D := D) (ci := 12) (v := .ref q_1) (C := RX12) (T := TX12) (N := 67) hx hb hts (inC ibX12) hown hG.1 hP 0 rfl rfl 2 (by decide) (hg _ k_1317) (fun _ h9 => h9) rfl dX12_feed_94 ?_
                    refine lv_aload_n hx hb dX12_feed_97 rfl (lv_at hl 2 rfl) ?_
                    refine va_get (D := D) (ci := 12) (v := .int (nI (cm T a1 a2 a3 k))) (C := RX12) (T := TX12) (N := 67) hx hb hts (inC ibX12) hown hG.1 hP 0 rfl rfl 1 (by decide) (hg _ k_1316) (fun _ h9 => h9) rfl dX12_feed_98 ?_
                    refine lv_iload hx hb dX12_feed_101 (lv_at hl 0 rfl) ?_
                    refine m_iast (g := upd f (nI (cm T a1 a2 a3 k)).toNatClampNeg x10_5) hx hb hG hP hD hS 1 rfl (vp_in_nI hlt (by decide)) dX12_feed_103 rfl (fun H locs hP hD hS => ?_)
                    have hP : va_P D vwCl [(h0, .inr (12, (.int 0 :: .int (nI (cm T a1 a2 a3 k)) :: .ref q_1 :: F))), (q_1, .inl (cy 1, 1000, .inl (upd f (nI (cm T a1 a2 a3 k)).toNatClampNeg x10_5)))] H := hP
                    have hD : va_D A [(h0, .inr (12, (.int 0 :: .int (nI (cm T a1 a2 a3 k)) :: .ref q_1 :: F))), (q_1, .inl (cy 1, 1000, .inl (upd f (nI (cm T a1 a2 a3 k)).toNatClampNeg x10_5)))] := hD
                    refine lv_aload_n hx hb dX12_feed_104 rfl (lv_at hl 2 rfl) ?_
                    refine lv_dup hx hb dX12_feed_105 rfl ?_
                    refine va_get (D := D) (ci := 12) (v := .int (nI (cm T a1 a2 a3 k))) (C := RX12) (T := TX12) (N := 67) hx hb hts (inC ibX12) hown hG.1 hP 0 rfl rfl 1 (by decide) (hg _ k_1316) (fun _ h9 => h9) rfl dX12_feed_106 ?_
                    refine lv_iconst (v := 1) hx hb dX12_feed_109 (by decide) ?_
                    refine m_iadd (v := ((nI (cm T a1 a2 a3 k)) + 1)) hx hb dX12_feed_110 rfl ?_
                    refine lv_topi (fun f_15 ef_15 => ?_)
                    refine va_put (D := D) (ci := 12) (v := .int f_15) (ty := .int) (C := RX12) (T := TX12) (N := 67) hx hb hts (inC ibX12) tyX12 tyX12_ok nmX12 hown hG.1 hP hD hS 0 rfl rfl 1 (by decide) (hg _ k_1316) (fun _ h9 => h9) rfl (by decide +kernel) rfl rfl (Nat.le_of_ble_eq_true rfl) dX12_feed_111 (fun H locs hP hD hS => ?_)
                    have hP : va_P D vwCl [(h0, .inr (12, (.int 0 :: .int f_15 :: .ref q_1 :: F))), (q_1, .inl (cy 1, 1000, .inl (upd f (nI (cm T a1 a2 a3 k)).toNatClampNeg x10_5)))] H := hP
                    have hD : va_D A [(h0, .inr (12, (.int 0 :: .int f_15 :: .ref q_1 :: F))), (q_1, .inl (cy 1, 1000, .inl (upd f (nI (cm T a1 a2 a3 k)).toNatClampNeg x10_5)))] := hD
                    obtain ⟨x7_16, ex7_16⟩ : ∃ y : Int32, y = x7 + 1 := ⟨_, rfl⟩
                    refine lv_iinc (v := x7_16) (lv' := [(7, .int x7_16), (10, .int x10_5), (8, .long a3), (0, .ref h0), (1, .long a1), (3, .long a2), (5, .long a3)]) hx hb dX12_feed_114 hl (k := 6) rfl (by rw [ex7_16]; rfl) (by decide) rfl (fun ls hl => ?_)
                    refine lv_goto (tgt := 8) hx hb dX12_feed_117 (by decide) ?_
                    have ec : f_15 = nI (cm T a1 a2 a3 (k + 1)) := by rw [ef_15]; show _ = nI (stp _ _); rw [stp_yes (by rw [← eb]; exact Or.inr ⟨nlt_le c_11, nlt_le c_13⟩) hlt]; exact nI_1 _
                    rw [ec] at hP hD
                    have ef2 : upd f (nI (cm T a1 a2 a3 k)).toNatClampNeg x10_5 = fbw f0 T a1 a2 a3 (k + 1) := by rw [ef]; show _ = wst _ _ _; exact wst_yes (by rw [← eb]; exact Or.inr ⟨nlt_le c_11, nlt_le c_13⟩) hlt (nI_clamp (by omega)) eb
                    exact ih (k + 1) x7_16 (upd f (nI (cm T a1 a2 a3 k)).toNatClampNeg x10_5) (by omega) hk24 (by rw [ex7_16, ex7]; exact nI_1 k) ef2 _ _ (hP.sub [0, 1] rfl) (hD.sub [0, 1] (by decide) rfl) hS ls (lv_sub hl [3, 4, 5, 6, 0] rfl)
          · refine lv_lload_n hx hb dX12_feed_33 rfl (lv_at hl 2 rfl) ?_
            refine lv_goto (tgt := 39) hx hb dX12_feed_34 (by decide) ?_
            refine lv_lstore (lv' := [(8, .long a2), (0, .ref h0), (1, .long a1), (3, .long a2), (5, .long a3), (7, .int x7)]) hx hb dX12_feed_39 hl (by decide) rfl (fun ls hl => ?_)
            refine lv_lload hx hb dX12_feed_41 (lv_at hl 0 rfl) ?_
            refine lv_bipush (v := 56) hx hb dX12_feed_43 (by decide) ?_
            refine lv_bipush (v := 8) hx hb dX12_feed_45 (by decide) ?_
            refine lv_iload hx hb dX12_feed_47 (lv_at hl 5 rfl) ?_
            refine lv_bipush (v := 7) hx hb dX12_feed_49 (by decide) ?_
            refine m_iand (v := (x7 &&& 7)) hx hb dX12_feed_51 rfl ?_
            refine m_imul (v := (8 * (x7 &&& 7))) hx hb dX12_feed_52 rfl ?_
            refine m_isub (v := (56 - (8 * (x7 &&& 7)))) hx hb dX12_feed_53 rfl ?_
            refine lv_lushr (v := (a2.toUInt64 >>> ((56 - (8 * (x7 &&& 7))).toInt64.toUInt64 &&& Int64.toUInt64 63)).toInt64) hx hb dX12_feed_54 rfl ?_
            refine lv_ldc2 (v := 255) hx hb hown (hg _ k_1525) dX12_feed_55 ?_
            refine m_land (v := (((a2.toUInt64 >>> ((56 - (8 * (x7 &&& 7))).toInt64.toUInt64 &&& Int64.toUInt64 63)).toInt64) &&& 255)) hx hb dX12_feed_58 rfl ?_
            refine lv_l2i (v := (((a2.toUInt64 >>> ((56 - (8 * (x7 &&& 7))).toInt64.toUInt64 &&& Int64.toUInt64 63)).toInt64) &&& 255).toInt32) hx hb dX12_feed_59 rfl ?_
            refine lv_topi (fun x10_17 ex10_17 => ?_)
            refine lv_istore (lv' := [(10, .int x10_17), (8, .long a2), (0, .ref h0), (1, .long a1), (3, .long a2), (5, .long a3), (7, .int x7)]) hx hb dX12_feed_60 hl (by decide) rfl (fun ls hl => ?_)
            have epk : pck a1 a2 a3 k = a2 := (if_neg (fun q => absurd c_3 (by rw [ex7]; exact nI_ge (b := 8) q (by decide)))).trans (if_pos (Nat.lt_of_not_le fun q => c_4 (by rw [ex7]; exact nI_le (a := 16) q (by omega))))
            have eb : x10_17 = byt (pck a1 a2 a3 k) (k % 8) := by rw [ex10_17, epk, ex7, pk_andN (by omega) 3 rfl, show (8 : Int32) = nI 8 from rfl, pk_mul, e56 (Nat.mod_lt k (by decide))]; rfl
            refine lv_aload_n hx hb dX12_feed_62 rfl (lv_at hl 2 rfl) ?_
            refine va_get (D := D) (ci := 12) (v := .int (nI (cm T a1 a2 a3 k))) (C := RX12) (T := TX12) (N := 67) hx hb hts (inC ibX12) hown hG.1 hP 0 rfl rfl 1 (by decide) (hg _ k_1316) (fun _ h9 => h9) rfl dX12_feed_63 ?_
            refine lv_sipush (v := 1000) hx hb dX12_feed_66 (by decide) ?_
            refine lv_icmp_ge (tgt := 114) hx hb dX12_feed_69 (by decide) (fun c_18 => ?_) (fun c_18 => ?_)
            · obtain ⟨x7_19, ex7_19⟩ : ∃ y : Int32, y = x7 + 1 := ⟨_, rfl⟩
              refine lv_iinc (v := x7_19) (lv' := [(7, .int x7_19), (10, .int x10_17), (8, .long a2), (0, .ref h0), (1, .long a1), (3, .long a2), (5, .long a3)]) hx hb dX12_feed_114 hl (k := 6) rfl (by rw [ex7_19]; rfl) (by decide) rfl (fun ls hl => ?_)
              refine lv_goto (tgt := 8) hx hb dX12_feed_117 (by decide) ?_
              have ec : nI (cm T a1 a2 a3 k) = nI (cm T a1 a2 a3 (k + 1)) := by show _ = nI (stp _ _); rw [stp_full (nI_ge1000 (cm_le a1 a2 a3 hT k) c_18)]
              rw [ec] at hP hD
              have ef2 : f = fbw f0 T a1 a2 a3 (k + 1) := by rw [ef]; show _ = wst _ _ _; exact wst_full (nI_ge1000 (cm_le a1 a2 a3 hT k) c_18)
              exact ih (k + 1) x7_19 f (by omega) hk24 (by rw [ex7_19, ex7]; exact nI_1 k) ef2 _ _ (hP.sub [0, 1] rfl) (hD.sub [0, 1] (by decide) rfl) hS ls (lv_sub hl [3, 4, 5, 6, 0] rfl)
            · have hlt : cm T a1 a2 a3 k < 1000 := nI_lt1000 (cm_le a1 a2 a3 hT k) c_18
              refine lv_iload hx hb dX12_feed_72 (lv_at hl 0 rfl) ?_
              refine lv_bipush (v := 10) hx hb dX12_feed_74 (by decide) ?_
              refine lv_icmp_eq (tgt := 93) hx hb dX12_feed_76 (by decide) (fun c_20 => ?_) (fun c_20 => ?_)
              · refine lv_aload_n hx hb dX12_feed_93 rfl (lv_at hl 2 rfl) ?_
                refine va_get (D := D) (ci := 12) (v := .ref q_1) (C := RX12) (T := TX12) (N := 67) hx hb hts (inC ibX12) hown hG.1 hP 0 rfl rfl 2 (by decide) (hg _ k_1317) (fun _ h9 => h9) rfl dX12_feed_94 ?_
                refine lv_aload_n hx hb dX12_feed_97 rfl (lv_at hl 2 rfl) ?_
                refine va_get (D := D) (ci := 12) (v := .int (nI (cm T a1 a2 a3 k))) (C := RX12) (T := TX12) (N := 67) hx hb hts (inC ibX12) hown hG.1 hP 0 rfl rfl 1 (by decide) (hg _ k_1316) (fun _ h9 => h9) rfl dX12_feed_98 ?_
                refine lv_iload hx hb dX12_feed_101 (lv_at hl 0 rfl) ?_
                refine m_iast (g := upd f (nI (cm T a1 a2 a3 k)).toNatClampNeg x10_17) hx hb hG hP hD hS 1 rfl (vp_in_nI hlt (by decide)) dX12_feed_103 rfl (fun H locs hP hD hS => ?_)
                have hP : va_P D vwCl [(h0, .inr (12, (.int 0 :: .int (nI (cm T a1 a2 a3 k)) :: .ref q_1 :: F))), (q_1, .inl (cy 1, 1000, .inl (upd f (nI (cm T a1 a2 a3 k)).toNatClampNeg x10_17)))] H := hP
                have hD : va_D A [(h0, .inr (12, (.int 0 :: .int (nI (cm T a1 a2 a3 k)) :: .ref q_1 :: F))), (q_1, .inl (cy 1, 1000, .inl (upd f (nI (cm T a1 a2 a3 k)).toNatClampNeg x10_17)))] := hD
                refine lv_aload_n hx hb dX12_feed_104 rfl (lv_at hl 2 rfl) ?_
                refine lv_dup hx hb dX12_feed_105 rfl ?_
                refine va_get (D := D) (ci := 12) (v := .int (nI (cm T a1 a2 a3 k))) (C := RX12) (T := TX12) (N := 67) hx hb hts (inC ibX12) hown hG.1 hP 0 rfl rfl 1 (by decide) (hg _ k_1316) (fun _ h9 => h9) rfl dX12_feed_106 ?_
                refine lv_iconst (v := 1) hx hb dX12_feed_109 (by decide) ?_
                refine m_iadd (v := ((nI (cm T a1 a2 a3 k)) + 1)) hx hb dX12_feed_110 rfl ?_
                refine lv_topi (fun f_21 ef_21 => ?_)
                refine va_put (D := D) (ci := 12) (v := .int f_21) (ty := .int) (C := RX12) (T := TX12) (N := 67) hx hb hts (inC ibX12) tyX12 tyX12_ok nmX12 hown hG.1 hP hD hS 0 rfl rfl 1 (by decide) (hg _ k_1316) (fun _ h9 => h9) rfl (by decide +kernel) rfl rfl (Nat.le_of_ble_eq_true rfl) dX12_feed_111 (fun H locs hP hD hS => ?_)
                have hP : va_P D vwCl [(h0, .inr (12, (.int 0 :: .int f_21 :: .ref q_1 :: F))), (q_1, .inl (cy 1, 1000, .inl (upd f (nI (cm T a1 a2 a3 k)).toNatClampNeg x10_17)))] H := hP
                have hD : va_D A [(h0, .inr (12, (.int 0 :: .int f_21 :: .ref q_1 :: F))), (q_1, .inl (cy 1, 1000, .inl (upd f (nI (cm T a1 a2 a3 k)).toNatClampNeg x10_17)))] := hD
                obtain ⟨x7_22, ex7_22⟩ : ∃ y : Int32, y = x7 + 1 := ⟨_, rfl⟩
                refine lv_iinc (v := x7_22) (lv' := [(7, .int x7_22), (10, .int x10_17), (8, .long a2), (0, .ref h0), (1, .long a1), (3, .long a2), (5, .long a3)]) hx hb dX12_feed_114 hl (k := 6) rfl (by rw [ex7_22]; rfl) (by decide) rfl (fun ls hl => ?_)
                refine lv_goto (tgt := 8) hx hb dX12_feed_117 (by decide) ?_
                have ec : f_21 = nI (cm T a1 a2 a3 (k + 1)) := by rw [ef_21]; show _ = nI (stp _ _); rw [stp_yes (by rw [← eb]; exact Or.inl c_20) hlt]; exact nI_1 _
                rw [ec] at hP hD
                have ef2 : upd f (nI (cm T a1 a2 a3 k)).toNatClampNeg x10_17 = fbw f0 T a1 a2 a3 (k + 1) := by rw [ef]; show _ = wst _ _ _; exact wst_yes (by rw [← eb]; exact Or.inl c_20) hlt (nI_clamp (by omega)) eb
                exact ih (k + 1) x7_22 (upd f (nI (cm T a1 a2 a3 k)).toNatClampNeg x10_17) (by omega) hk24 (by rw [ex7_22, ex7]; exact nI_1 k) ef2 _ _ (hP.sub [0, 1] rfl) (hD.sub [0, 1] (by decide) rfl) hS ls (lv_sub hl [3, 4, 5, 6, 0] rfl)
              · refine lv_iload hx hb dX12_feed_79 (lv_at hl 0 rfl) ?_
                refine lv_bipush (v := 32) hx hb dX12_feed_81 (by decide) ?_
                refine lv_icmp_lt (tgt := 114) hx hb dX12_feed_83 (by decide) (fun c_23 => ?_) (fun c_23 => ?_)
                · obtain ⟨x7_24, ex7_24⟩ : ∃ y : Int32, y = x7 + 1 := ⟨_, rfl⟩
                  refine lv_iinc (v := x7_24) (lv' := [(7, .int x7_24), (10, .int x10_17), (8, .long a2), (0, .ref h0), (1, .long a1), (3, .long a2), (5, .long a3)]) hx hb dX12_feed_114 hl (k := 6) rfl (by rw [ex7_24]; rfl) (by decide) rfl (fun ls hl => ?_)
                  refine lv_goto (tgt := 8) hx hb dX12_feed_117 (by decide) ?_
                  have ec : nI (cm T a1 a2 a3 k) = nI (cm T a1 a2 a3 (k + 1)) := by show _ = nI (stp _ _); rw [stp_no (by rw [← eb]; exact fun q => q.elim c_20 (fun q => absurd c_23 (le_nlt q.1)))]
                  rw [ec] at hP hD
                  have ef2 : f = fbw f0 T a1 a2 a3 (k + 1) := by rw [ef]; show _ = wst _ _ _; exact wst_no (by rw [← eb]; exact fun q => q.elim c_20 (fun q => absurd c_23 (le_nlt q.1)))
                  exact ih (k + 1) x7_24 f (by omega) hk24 (by rw [ex7_24, ex7]; exact nI_1 k) ef2 _ _ (hP.sub [0, 1] rfl) (hD.sub [0, 1] (by decide) rfl) hS ls (lv_sub hl [3, 4, 5, 6, 0] rfl)
                · refine lv_iload hx hb dX12_feed_86 (lv_at hl 0 rfl) ?_
                  refine lv_bipush (v := 126) hx hb dX12_feed_88 (by decide) ?_
                  refine lv_icmp_gt (tgt := 114) hx hb dX12_feed_90 (by decide) (fun c_25 => ?_) (fun c_25 => ?_)
                  · obtain ⟨x7_26, ex7_26⟩ : ∃ y : Int32, y = x7 + 1 := ⟨_, rfl⟩
                    refine lv_iinc (v := x7_26) (lv' := [(7, .int x7_26), (10, .int x10_17), (8, .long a2), (0, .ref h0), (1, .long a1), (3, .long a2), (5, .long a3)]) hx hb dX12_feed_114 hl (k := 6) rfl (by rw [ex7_26]; rfl) (by decide) rfl (fun ls hl => ?_)
                    refine lv_goto (tgt := 8) hx hb dX12_feed_117 (by decide) ?_
                    have ec : nI (cm T a1 a2 a3 k) = nI (cm T a1 a2 a3 (k + 1)) := by show _ = nI (stp _ _); rw [stp_no (by rw [← eb]; exact fun q => q.elim c_20 (fun q => absurd c_25 (le_nlt q.2)))]
                    rw [ec] at hP hD
                    have ef2 : f = fbw f0 T a1 a2 a3 (k + 1) := by rw [ef]; show _ = wst _ _ _; exact wst_no (by rw [← eb]; exact fun q => q.elim c_20 (fun q => absurd c_25 (le_nlt q.2)))
                    exact ih (k + 1) x7_26 f (by omega) hk24 (by rw [ex7_26, ex7]; exact nI_1 k) ef2 _ _ (hP.sub [0, 1] rfl) (hD.sub [0, 1] (by decide) rfl) hS ls (lv_sub hl [3, 4, 5, 6, 0] rfl)
                  · refine lv_aload_n hx hb dX12_feed_93 rfl (lv_at hl 2 rfl) ?_
                    refine va_get (D := D) (ci := 12) (v := .ref q_1) (C := RX12) (T := TX12) (N := 67) hx hb hts (inC ibX12) hown hG.1 hP 0 rfl rfl 2 (by decide) (hg _ k_1317) (fun _ h9 => h9) rfl dX12_feed_94 ?_
                    refine lv_aload_n hx hb dX12_feed_97 rfl (lv_at hl 2 rfl) ?_
                    refine va_get (D := D) (ci := 12) (v := .int (nI (cm T a1 a2 a3 k))) (C := RX12) (T := TX12) (N := 67) hx hb hts (inC ibX12) hown hG.1 hP 0 rfl rfl 1 (by decide) (hg _ k_1316) (fun _ h9 => h9) rfl dX12_feed_98 ?_
                    refine lv_iload hx hb dX12_feed_101 (lv_at hl 0 rfl) ?_
                    refine m_iast (g := upd f (nI (cm T a1 a2 a3 k)).toNatClampNeg x10_17) hx hb hG hP hD hS 1 rfl (vp_in_nI hlt (by decide)) dX12_feed_103 rfl (fun H locs hP hD hS => ?_)
                    have hP : va_P D vwCl [(h0, .inr (12, (.int 0 :: .int (nI (cm T a1 a2 a3 k)) :: .ref q_1 :: F))), (q_1, .inl (cy 1, 1000, .inl (upd f (nI (cm T a1 a2 a3 k)).toNatClampNeg x10_17)))] H := hP
                    have hD : va_D A [(h0, .inr (12, (.int 0 :: .int (nI (cm T a1 a2 a3 k)) :: .ref q_1 :: F))), (q_1, .inl (cy 1, 1000, .inl (upd f (nI (cm T a1 a2 a3 k)).toNatClampNeg x10_17)))] := hD
                    refine lv_aload_n hx hb dX12_feed_104 rfl (lv_at hl 2 rfl) ?_
                    refine lv_dup hx hb dX12_feed_105 rfl ?_
                    refine va_get (D := D) (ci := 12) (v := .int (nI (cm T a1 a2 a3 k))) (C := RX12) (T := TX12) (N := 67) hx hb hts (inC ibX12) hown hG.1 hP 0 rfl rfl 1 (by decide) (hg _ k_1316) (fun _ h9 => h9) rfl dX12_feed_106 ?_
                    refine lv_iconst (v := 1) hx hb dX12_feed_109 (by decide) ?_
                    refine m_iadd (v := ((nI (cm T a1 a2 a3 k)) + 1)) hx hb dX12_feed_110 rfl ?_
                    refine lv_topi (fun f_27 ef_27 => ?_)
                    refine va_put (D := D) (ci := 12) (v := .int f_27) (ty := .int) (C := RX12) (T := TX12) (N := 67) hx hb hts (inC ibX12) tyX12 tyX12_ok nmX12 hown hG.1 hP hD hS 0 rfl rfl 1 (by decide) (hg _ k_1316) (fun _ h9 => h9) rfl (by decide +kernel) rfl rfl (Nat.le_of_ble_eq_true rfl) dX12_feed_111 (fun H locs hP hD hS => ?_)
                    have hP : va_P D vwCl [(h0, .inr (12, (.int 0 :: .int f_27 :: .ref q_1 :: F))), (q_1, .inl (cy 1, 1000, .inl (upd f (nI (cm T a1 a2 a3 k)).toNatClampNeg x10_17)))] H := hP
                    have hD : va_D A [(h0, .inr (12, (.int 0 :: .int f_27 :: .ref q_1 :: F))), (q_1, .inl (cy 1, 1000, .inl (upd f (nI (cm T a1 a2 a3 k)).toNatClampNeg x10_17)))] := hD
                    obtain ⟨x7_28, ex7_28⟩ : ∃ y : Int32, y = x7 + 1 := ⟨_, rfl⟩
                    refine lv_iinc (v := x7_28) (lv' := [(7, .int x7_28), (10, .int x10_17), (8, .long a2), (0, .ref h0), (1, .long a1), (3, .long a2), (5, .long a3)]) hx hb dX12_feed_114 hl (k := 6) rfl (by rw [ex7_28]; rfl) (by decide) rfl (fun ls hl => ?_)
                    refine lv_goto (tgt := 8) hx hb dX12_feed_117 (by decide) ?_
                    have ec : f_27 = nI (cm T a1 a2 a3 (k + 1)) := by rw [ef_27]; show _ = nI (stp _ _); rw [stp_yes (by rw [← eb]; exact Or.inr ⟨nlt_le c_23, nlt_le c_25⟩) hlt]; exact nI_1 _
                    rw [ec] at hP hD
                    have ef2 : upd f (nI (cm T a1 a2 a3 k)).toNatClampNeg x10_17 = fbw f0 T a1 a2 a3 (k + 1) := by rw [ef]; show _ = wst _ _ _; exact wst_yes (by rw [← eb]; exact Or.inr ⟨nlt_le c_23, nlt_le c_25⟩) hlt (nI_clamp (by omega)) eb
                    exact ih (k + 1) x7_28 (upd f (nI (cm T a1 a2 a3 k)).toNatClampNeg x10_17) (by omega) hk24 (by rw [ex7_28, ex7]; exact nI_1 k) ef2 _ _ (hP.sub [0, 1] rfl) (hD.sub [0, 1] (by decide) rfl) hS ls (lv_sub hl [3, 4, 5, 6, 0] rfl)
        · refine lv_lload_n hx hb dX12_feed_22 rfl (lv_at hl 1 rfl) ?_
          refine lv_goto (tgt := 39) hx hb dX12_feed_23 (by decide) ?_
          refine lv_lstore (lv' := [(8, .long a1), (0, .ref h0), (1, .long a1), (3, .long a2), (5, .long a3), (7, .int x7)]) hx hb dX12_feed_39 hl (by decide) rfl (fun ls hl => ?_)
          refine lv_lload hx hb dX12_feed_41 (lv_at hl 0 rfl) ?_
          refine lv_bipush (v := 56) hx hb dX12_feed_43 (by decide) ?_
          refine lv_bipush (v := 8) hx hb dX12_feed_45 (by decide) ?_
          refine lv_iload hx hb dX12_feed_47 (lv_at hl 5 rfl) ?_
          refine lv_bipush (v := 7) hx hb dX12_feed_49 (by decide) ?_
          refine m_iand (v := (x7 &&& 7)) hx hb dX12_feed_51 rfl ?_
          refine m_imul (v := (8 * (x7 &&& 7))) hx hb dX12_feed_52 rfl ?_
          refine m_isub (v := (56 - (8 * (x7 &&& 7)))) hx hb dX12_feed_53 rfl ?_
          refine lv_lushr (v := (a1.toUInt64 >>> ((56 - (8 * (x7 &&& 7))).toInt64.toUInt64 &&& Int64.toUInt64 63)).toInt64) hx hb dX12_feed_54 rfl ?_
          refine lv_ldc2 (v := 255) hx hb hown (hg _ k_1525) dX12_feed_55 ?_
          refine m_land (v := (((a1.toUInt64 >>> ((56 - (8 * (x7 &&& 7))).toInt64.toUInt64 &&& Int64.toUInt64 63)).toInt64) &&& 255)) hx hb dX12_feed_58 rfl ?_
          refine lv_l2i (v := (((a1.toUInt64 >>> ((56 - (8 * (x7 &&& 7))).toInt64.toUInt64 &&& Int64.toUInt64 63)).toInt64) &&& 255).toInt32) hx hb dX12_feed_59 rfl ?_
          refine lv_topi (fun x10_29 ex10_29 => ?_)
          refine lv_istore (lv' := [(10, .int x10_29), (8, .long a1), (0, .ref h0), (1, .long a1), (3, .long a2), (5, .long a3), (7, .int x7)]) hx hb dX12_feed_60 hl (by decide) rfl (fun ls hl => ?_)
          have epk : pck a1 a2 a3 k = a1 := if_pos (Nat.lt_of_not_le fun q => c_3 (by rw [ex7]; exact nI_le (a := 8) q (by omega)))
          have eb : x10_29 = byt (pck a1 a2 a3 k) (k % 8) := by rw [ex10_29, epk, ex7, pk_andN (by omega) 3 rfl, show (8 : Int32) = nI 8 from rfl, pk_mul, e56 (Nat.mod_lt k (by decide))]; rfl
          refine lv_aload_n hx hb dX12_feed_62 rfl (lv_at hl 2 rfl) ?_
          refine va_get (D := D) (ci := 12) (v := .int (nI (cm T a1 a2 a3 k))) (C := RX12) (T := TX12) (N := 67) hx hb hts (inC ibX12) hown hG.1 hP 0 rfl rfl 1 (by decide) (hg _ k_1316) (fun _ h9 => h9) rfl dX12_feed_63 ?_
          refine lv_sipush (v := 1000) hx hb dX12_feed_66 (by decide) ?_
          refine lv_icmp_ge (tgt := 114) hx hb dX12_feed_69 (by decide) (fun c_30 => ?_) (fun c_30 => ?_)
          · obtain ⟨x7_31, ex7_31⟩ : ∃ y : Int32, y = x7 + 1 := ⟨_, rfl⟩
            refine lv_iinc (v := x7_31) (lv' := [(7, .int x7_31), (10, .int x10_29), (8, .long a1), (0, .ref h0), (1, .long a1), (3, .long a2), (5, .long a3)]) hx hb dX12_feed_114 hl (k := 6) rfl (by rw [ex7_31]; rfl) (by decide) rfl (fun ls hl => ?_)
            refine lv_goto (tgt := 8) hx hb dX12_feed_117 (by decide) ?_
            have ec : nI (cm T a1 a2 a3 k) = nI (cm T a1 a2 a3 (k + 1)) := by show _ = nI (stp _ _); rw [stp_full (nI_ge1000 (cm_le a1 a2 a3 hT k) c_30)]
            rw [ec] at hP hD
            have ef2 : f = fbw f0 T a1 a2 a3 (k + 1) := by rw [ef]; show _ = wst _ _ _; exact wst_full (nI_ge1000 (cm_le a1 a2 a3 hT k) c_30)
            exact ih (k + 1) x7_31 f (by omega) hk24 (by rw [ex7_31, ex7]; exact nI_1 k) ef2 _ _ (hP.sub [0, 1] rfl) (hD.sub [0, 1] (by decide) rfl) hS ls (lv_sub hl [3, 4, 5, 6, 0] rfl)
          · have hlt : cm T a1 a2 a3 k < 1000 := nI_lt1000 (cm_le a1 a2 a3 hT k) c_30
            refine lv_iload hx hb dX12_feed_72 (lv_at hl 0 rfl) ?_
            refine lv_bipush (v := 10) hx hb dX12_feed_74 (by decide) ?_
            refine lv_icmp_eq (tgt := 93) hx hb dX12_feed_76 (by decide) (fun c_32 => ?_) (fun c_32 => ?_)
            · refine lv_aload_n hx hb dX12_feed_93 rfl (lv_at hl 2 rfl) ?_
              refine va_get (D := D) (ci := 12) (v := .ref q_1) (C := RX12) (T := TX12) (N := 67) hx hb hts (inC ibX12) hown hG.1 hP 0 rfl rfl 2 (by decide) (hg _ k_1317) (fun _ h9 => h9) rfl dX12_feed_94 ?_
              refine lv_aload_n hx hb dX12_feed_97 rfl (lv_at hl 2 rfl) ?_
              refine va_get (D := D) (ci := 12) (v := .int (nI (cm T a1 a2 a3 k))) (C := RX12) (T := TX12) (N := 67) hx hb hts (inC ibX12) hown hG.1 hP 0 rfl rfl 1 (by decide) (hg _ k_1316) (fun _ h9 => h9) rfl dX12_feed_98 ?_
              refine lv_iload hx hb dX12_feed_101 (lv_at hl 0 rfl) ?_
              refine m_iast (g := upd f (nI (cm T a1 a2 a3 k)).toNatClampNeg x10_29) hx hb hG hP hD hS 1 rfl (vp_in_nI hlt (by decide)) dX12_feed_103 rfl (fun H locs hP hD hS => ?_)
              have hP : va_P D vwCl [(h0, .inr (12, (.int 0 :: .int (nI (cm T a1 a2 a3 k)) :: .ref q_1 :: F))), (q_1, .inl (cy 1, 1000, .inl (upd f (nI (cm T a1 a2 a3 k)).toNatClampNeg x10_29)))] H := hP
              have hD : va_D A [(h0, .inr (12, (.int 0 :: .int (nI (cm T a1 a2 a3 k)) :: .ref q_1 :: F))), (q_1, .inl (cy 1, 1000, .inl (upd f (nI (cm T a1 a2 a3 k)).toNatClampNeg x10_29)))] := hD
              refine lv_aload_n hx hb dX12_feed_104 rfl (lv_at hl 2 rfl) ?_
              refine lv_dup hx hb dX12_feed_105 rfl ?_
              refine va_get (D := D) (ci := 12) (v := .int (nI (cm T a1 a2 a3 k))) (C := RX12) (T := TX12) (N := 67) hx hb hts (inC ibX12) hown hG.1 hP 0 rfl rfl 1 (by decide) (hg _ k_1316) (fun _ h9 => h9) rfl dX12_feed_106 ?_
              refine lv_iconst (v := 1) hx hb dX12_feed_109 (by decide) ?_
              refine m_iadd (v := ((nI (cm T a1 a2 a3 k)) + 1)) hx hb dX12_feed_110 rfl ?_
              refine lv_topi (fun f_33 ef_33 => ?_)
              refine va_put (D := D) (ci := 12) (v := .int f_33) (ty := .int) (C := RX12) (T := TX12) (N := 67) hx hb hts (inC ibX12) tyX12 tyX12_ok nmX12 hown hG.1 hP hD hS 0 rfl rfl 1 (by decide) (hg _ k_1316) (fun _ h9 => h9) rfl (by decide +kernel) rfl rfl (Nat.le_of_ble_eq_true rfl) dX12_feed_111 (fun H locs hP hD hS => ?_)
              have hP : va_P D vwCl [(h0, .inr (12, (.int 0 :: .int f_33 :: .ref q_1 :: F))), (q_1, .inl (cy 1, 1000, .inl (upd f (nI (cm T a1 a2 a3 k)).toNatClampNeg x10_29)))] H := hP
              have hD : va_D A [(h0, .inr (12, (.int 0 :: .int f_33 :: .ref q_1 :: F))), (q_1, .inl (cy 1, 1000, .inl (upd f (nI (cm T a1 a2 a3 k)).toNatClampNeg x10_29)))] := hD
              obtain ⟨x7_34, ex7_34⟩ : ∃ y : Int32, y = x7 + 1 := ⟨_, rfl⟩
              refine lv_iinc (v := x7_34) (lv' := [(7, .int x7_34), (10, .int x10_29), (8, .long a1), (0, .ref h0), (1, .long a1), (3, .long a2), (5, .long a3)]) hx hb dX12_feed_114 hl (k := 6) rfl (by rw [ex7_34]; rfl) (by decide) rfl (fun ls hl => ?_)
              refine lv_goto (tgt := 8) hx hb dX12_feed_117 (by decide) ?_
              have ec : f_33 = nI (cm T a1 a2 a3 (k + 1)) := by rw [ef_33]; show _ = nI (stp _ _); rw [stp_yes (by rw [← eb]; exact Or.inl c_32) hlt]; exact nI_1 _
              rw [ec] at hP hD
              have ef2 : upd f (nI (cm T a1 a2 a3 k)).toNatClampNeg x10_29 = fbw f0 T a1 a2 a3 (k + 1) := by rw [ef]; show _ = wst _ _ _; exact wst_yes (by rw [← eb]; exact Or.inl c_32) hlt (nI_clamp (by omega)) eb
              exact ih (k + 1) x7_34 (upd f (nI (cm T a1 a2 a3 k)).toNatClampNeg x10_29) (by omega) hk24 (by rw [ex7_34, ex7]; exact nI_1 k) ef2 _ _ (hP.sub [0, 1] rfl) (hD.sub [0, 1] (by decide) rfl) hS ls (lv_sub hl [3, 4, 5, 6, 0] rfl)
            · refine lv_iload hx hb dX12_feed_79 (lv_at hl 0 rfl) ?_
              refine lv_bipush (v := 32) hx hb dX12_feed_81 (by decide) ?_
              refine lv_icmp_lt (tgt := 114) hx hb dX12_feed_83 (by decide) (fun c_35 => ?_) (fun c_35 => ?_)
              · obtain ⟨x7_36, ex7_36⟩ : ∃ y : Int32, y = x7 + 1 := ⟨_, rfl⟩
                refine lv_iinc (v := x7_36) (lv' := [(7, .int x7_36), (10, .int x10_29), (8, .long a1), (0, .ref h0), (1, .long a1), (3, .long a2), (5, .long a3)]) hx hb dX12_feed_114 hl (k := 6) rfl (by rw [ex7_36]; rfl) (by decide) rfl (fun ls hl => ?_)
                refine lv_goto (tgt := 8) hx hb dX12_feed_117 (by decide) ?_
                have ec : nI (cm T a1 a2 a3 k) = nI (cm T a1 a2 a3 (k + 1)) := by show _ = nI (stp _ _); rw [stp_no (by rw [← eb]; exact fun q => q.elim c_32 (fun q => absurd c_35 (le_nlt q.1)))]
                rw [ec] at hP hD
                have ef2 : f = fbw f0 T a1 a2 a3 (k + 1) := by rw [ef]; show _ = wst _ _ _; exact wst_no (by rw [← eb]; exact fun q => q.elim c_32 (fun q => absurd c_35 (le_nlt q.1)))
                exact ih (k + 1) x7_36 f (by omega) hk24 (by rw [ex7_36, ex7]; exact nI_1 k) ef2 _ _ (hP.sub [0, 1] rfl) (hD.sub [0, 1] (by decide) rfl) hS ls (lv_sub hl [3, 4, 5, 6, 0] rfl)
              · refine lv_iload hx hb dX12_feed_86 (lv_at hl 0 rfl) ?_
                refine lv_bipush (v := 126) hx hb dX12_feed_88 (by decide) ?_
                refine lv_icmp_gt (tgt := 114) hx hb dX12_feed_90 (by decide) (fun c_37 => ?_) (fun c_37 => ?_)
                · obtain ⟨x7_38, ex7_38⟩ : ∃ y : Int32, y = x7 + 1 := ⟨_, rfl⟩
                  refine lv_iinc (v := x7_38) (lv' := [(7, .int x7_38), (10, .int x10_29), (8, .long a1), (0, .ref h0), (1, .long a1), (3, .long a2), (5, .long a3)]) hx hb dX12_feed_114 hl (k := 6) rfl (by rw [ex7_38]; rfl) (by decide) rfl (fun ls hl => ?_)
                  refine lv_goto (tgt := 8) hx hb dX12_feed_117 (by decide) ?_
                  have ec : nI (cm T a1 a2 a3 k) = nI (cm T a1 a2 a3 (k + 1)) := by show _ = nI (stp _ _); rw [stp_no (by rw [← eb]; exact fun q => q.elim c_32 (fun q => absurd c_37 (le_nlt q.2)))]
                  rw [ec] at hP hD
                  have ef2 : f = fbw f0 T a1 a2 a3 (k + 1) := by rw [ef]; show _ = wst _ _ _; exact wst_no (by rw [← eb]; exact fun q => q.elim c_32 (fun q => absurd c_37 (le_nlt q.2)))
                  exact ih (k + 1) x7_38 f (by omega) hk24 (by rw [ex7_38, ex7]; exact nI_1 k) ef2 _ _ (hP.sub [0, 1] rfl) (hD.sub [0, 1] (by decide) rfl) hS ls (lv_sub hl [3, 4, 5, 6, 0] rfl)
                · refine lv_aload_n hx hb dX12_feed_93 rfl (lv_at hl 2 rfl) ?_
                  refine va_get (D := D) (ci := 12) (v := .ref q_1) (C := RX12) (T := TX12) (N := 67) hx hb hts (inC ibX12) hown hG.1 hP 0 rfl rfl 2 (by decide) (hg _ k_1317) (fun _ h9 => h9) rfl dX12_feed_94 ?_
                  refine lv_aload_n hx hb dX12_feed_97 rfl (lv_at hl 2 rfl) ?_
                  refine va_get (D := D) (ci := 12) (v := .int (nI (cm T a1 a2 a3 k))) (C := RX12) (T := TX12) (N := 67) hx hb hts (inC ibX12) hown hG.1 hP 0 rfl rfl 1 (by decide) (hg _ k_1316) (fun _ h9 => h9) rfl dX12_feed_98 ?_
                  refine lv_iload hx hb dX12_feed_101 (lv_at hl 0 rfl) ?_
                  refine m_iast (g := upd f (nI (cm T a1 a2 a3 k)).toNatClampNeg x10_29) hx hb hG hP hD hS 1 rfl (vp_in_nI hlt (by decide)) dX12_feed_103 rfl (fun H locs hP hD hS => ?_)
                  have hP : va_P D vwCl [(h0, .inr (12, (.int 0 :: .int (nI (cm T a1 a2 a3 k)) :: .ref q_1 :: F))), (q_1, .inl (cy 1, 1000, .inl (upd f (nI (cm T a1 a2 a3 k)).toNatClampNeg x10_29)))] H := hP
                  have hD : va_D A [(h0, .inr (12, (.int 0 :: .int (nI (cm T a1 a2 a3 k)) :: .ref q_1 :: F))), (q_1, .inl (cy 1, 1000, .inl (upd f (nI (cm T a1 a2 a3 k)).toNatClampNeg x10_29)))] := hD
                  refine lv_aload_n hx hb dX12_feed_104 rfl (lv_at hl 2 rfl) ?_
                  refine lv_dup hx hb dX12_feed_105 rfl ?_
                  refine va_get (D := D) (ci := 12) (v := .int (nI (cm T a1 a2 a3 k))) (C := RX12) (T := TX12) (N := 67) hx hb hts (inC ibX12) hown hG.1 hP 0 rfl rfl 1 (by decide) (hg _ k_1316) (fun _ h9 => h9) rfl dX12_feed_106 ?_
                  refine lv_iconst (v := 1) hx hb dX12_feed_109 (by decide) ?_
                  refine m_iadd (v := ((nI (cm T a1 a2 a3 k)) + 1)) hx hb dX12_feed_110 rfl ?_
                  refine lv_topi (fun f_39 ef_39 => ?_)
                  refine va_put (D := D) (ci := 12) (v := .int f_39) (ty := .int) (C := RX12) (T := TX12) (N := 67) hx hb hts (inC ibX12) tyX12 tyX12_ok nmX12 hown hG.1 hP hD hS 0 rfl rfl 1 (by decide) (hg _ k_1316) (fun _ h9 => h9) rfl (by decide +kernel) rfl rfl (Nat.le_of_ble_eq_true rfl) dX12_feed_111 (fun H locs hP hD hS => ?_)
                  have hP : va_P D vwCl [(h0, .inr (12, (.int 0 :: .int f_39 :: .ref q_1 :: F))), (q_1, .inl (cy 1, 1000, .inl (upd f (nI (cm T a1 a2 a3 k)).toNatClampNeg x10_29)))] H := hP
                  have hD : va_D A [(h0, .inr (12, (.int 0 :: .int f_39 :: .ref q_1 :: F))), (q_1, .inl (cy 1, 1000, .inl (upd f (nI (cm T a1 a2 a3 k)).toNatClampNeg x10_29)))] := hD
                  obtain ⟨x7_40, ex7_40⟩ : ∃ y : Int32, y = x7 + 1 := ⟨_, rfl⟩
                  refine lv_iinc (v := x7_40) (lv' := [(7, .int x7_40), (10, .int x10_29), (8, .long a1), (0, .ref h0), (1, .long a1), (3, .long a2), (5, .long a3)]) hx hb dX12_feed_114 hl (k := 6) rfl (by rw [ex7_40]; rfl) (by decide) rfl (fun ls hl => ?_)
                  refine lv_goto (tgt := 8) hx hb dX12_feed_117 (by decide) ?_
                  have ec : f_39 = nI (cm T a1 a2 a3 (k + 1)) := by rw [ef_39]; show _ = nI (stp _ _); rw [stp_yes (by rw [← eb]; exact Or.inr ⟨nlt_le c_35, nlt_le c_37⟩) hlt]; exact nI_1 _
                  rw [ec] at hP hD
                  have ef2 : upd f (nI (cm T a1 a2 a3 k)).toNatClampNeg x10_29 = fbw f0 T a1 a2 a3 (k + 1) := by rw [ef]; show _ = wst _ _ _; exact wst_yes (by rw [← eb]; exact Or.inr ⟨nlt_le c_35, nlt_le c_37⟩) hlt (nI_clamp (by omega)) eb
                  exact ih (k + 1) x7_40 (upd f (nI (cm T a1 a2 a3 k)).toNatClampNeg x10_29) (by omega) hk24 (by rw [ex7_40, ex7]; exact nI_1 k) ef2 _ _ (hP.sub [0, 1] rfl) (hD.sub [0, 1] (by decide) rfl) hS ls (lv_sub hl [3, 4, 5, 6, 0] rfl)
  exact LP_1 _ 0 0 f0 (Nat.lt_succ_self _) (by decide) rfl rfl _ _ (hP.sub [0, 1] rfl) (hD.sub [0, 1] (by decide) rfl) hS ls (lv_sub hl [1, 2, 3, 4, 0] rfl)
set_option maxHeartbeats 4000000 in
set_option maxRecDepth 100000 in
theorem c_X11_feed (l : Launch) (D : va_G) (cy : Nat → ClassId) (h0 : Nat) (q_1 : Nat) (q_3 : Nat) (q_4 : Nat) (q_25 : Nat) (q_46 : Nat) (q_50 : Nat) (q_54 : Nat) (q_58 : Nat) (q_62 : Nat) (q_63 : Nat) (q_64 : Nat) (q_67 : Nat) (q_85 : Nat) (q_90 : Nat) (q_93 : Nat) (n_1 : Int32) (n_2 : Int32) (q1_2 : Nat) (L : Nat) (fa : Int32) (ki : Int32) (nu : Int32) (sg : Int32) (wo : Int64) (ne : Int32) (pl : Int32) (f0 : Nat → Int32) (a1 : Int64) (a2 : Int64) (a3 : Int64) (sz : Nat) (hL : L ≤ 1000) : Met l yX11_feed (Cond.code yX11_feed cX11_feed 7 (some .int) :: bigG) ({ frames := 1, cells := 0, slots := 0, locals := 25 }) (pre D cy [.ref h0, .long a1, .long a2, .long a3] sz [(h0, .inr (11, [.ref q_1, .ref q_3, .ref q_4, .ref q_25, .ref q_46, .ref q_50, .ref q_54, .ref q_58, .ref q_62, .int n_1, .int n_2, .ref q_63, .ref q_64, .ref q_67, .ref q_85, .ref q_90, .ref q_93])), (q_1, .inr (9, [.ref q1_2, .int (nI L), .int fa, .int ki, .int nu, .int sg, .long wo, .int ne, .int pl])), (q1_2, .inl (cy 0, 1000, .inl f0))]) (qi (fun r h => r = nI (cb (cb (cb L a1 8) a2 8) a3 8) ∧ va_P D vwCl [(h0, .inr (11, [.ref q_1, .ref q_3, .ref q_4, .ref q_25, .ref q_46, .ref q_50, .ref q_54, .ref q_58, .ref q_62, .int n_1, .int n_2, .ref q_63, .ref q_64, .ref q_67, .ref q_85, .ref q_90, .ref q_93])), (q_1, .inr (9, [.ref q1_2, .int (nI (cb (cb (cb L a1 8) a2 8) a3 8)), .int fa, .int ki, .int nu, .int sg, .long wo, .int ne, .int pl])), (q1_2, .inl (cy 0, 1000, .inl (fb (fb (fb f0 L a1 8) (cb L a1 8) a2 8) (cb (cb L a1 8) a2 8) a3 8)))] h ∧ va_D (va_A [(h0, .inr (11, [.ref q_1, .ref q_3, .ref q_4, .ref q_25, .ref q_46, .ref q_50, .ref q_54, .ref q_58, .ref q_62, .int n_1, .int n_2, .ref q_63, .ref q_64, .ref q_67, .ref q_85, .ref q_90, .ref q_93])), (q_1, .inr (9, [.ref q1_2, .int (nI L), .int fa, .int ki, .int nu, .int sg, .long wo, .int ne, .int pl])), (q1_2, .inl (cy 0, 1000, .inl f0))] sz) [(h0, .inr (11, [.ref q_1, .ref q_3, .ref q_4, .ref q_25, .ref q_46, .ref q_50, .ref q_54, .ref q_58, .ref q_62, .int n_1, .int n_2, .ref q_63, .ref q_64, .ref q_67, .ref q_85, .ref q_90, .ref q_93])), (q_1, .inr (9, [.ref q1_2, .int (nI (cb (cb (cb L a1 8) a2 8) a3 8)), .int fa, .int ki, .int nu, .int sg, .long wo, .int ne, .int pl])), (q1_2, .inl (cy 0, 1000, .inl (fb (fb (fb f0 L a1 8) (cb L a1 8) a2 8) (cb (cb L a1 8) a2 8) a3 8)))]) (va_A [(h0, .inr (11, [.ref q_1, .ref q_3, .ref q_4, .ref q_25, .ref q_46, .ref q_50, .ref q_54, .ref q_58, .ref q_62, .int n_1, .int n_2, .ref q_63, .ref q_64, .ref q_67, .ref q_85, .ref q_90, .ref q_93])), (q_1, .inr (9, [.ref q1_2, .int (nI L), .int fa, .int ki, .int nu, .int sg, .long wo, .int ne, .int pl])), (q1_2, .inl (cy 0, 1000, .inl f0))] sz)) 0 0 (va_A [(h0, .inr (11, [.ref q_1, .ref q_3, .ref q_4, .ref q_25, .ref q_46, .ref q_50, .ref q_54, .ref q_58, .ref q_62, .int n_1, .int n_2, .ref q_63, .ref q_64, .ref q_67, .ref q_85, .ref q_90, .ref q_93])), (q_1, .inr (9, [.ref q1_2, .int (nI L), .int fa, .int ki, .int nu, .int sg, .long wo, .int ne, .int pl])), (q1_2, .inl (cy 0, 1000, .inl f0))] sz) := by
  refine Met.ofW (cc := cX11_feed) (maxL := 7) (ret := (some .int)) (by decide) rfl ?_
  intro p e s m args below meth c s₁ B hml hv
  obtain ⟨rfl, hsz, hP, hG, hD0⟩ := hv
  have hx := B.exec
  have hb := B.bytes
  have hr := B.returns
  have hts := atoms_spec (ws := (Cond.code yX11_feed cX11_feed 7 (some .int) :: bigG)) B.pre
  have hg : ∀ w ∈ bigG, w.before ([.ref h0, .long a1, .long a2, .long a3] : List Value).toArray s = true := fun w h => hts w (List.mem_cons_of_mem _ h)
  have hown : s.vm.findClass RX11 = some m.cls := findClass_of_methodNamed B.named
  have hlocks := B.notSynchronized
  subst hsz
  have hD := hD0.self (sz := s.heap.size)
  generalize hAe : va_A [(h0, .inr (11, [.ref q_1, .ref q_3, .ref q_4, .ref q_25, .ref q_46, .ref q_50, .ref q_54, .ref q_58, .ref q_62, .int n_1, .int n_2, .ref q_63, .ref q_64, .ref q_67, .ref q_85, .ref q_90, .ref q_93])), (q_1, .inr (9, [.ref q1_2, .int (nI L), .int fa, .int ki, .int nu, .int sg, .long wo, .int ne, .int pl])), (q1_2, .inl (cy 0, 1000, .inl f0))] s.heap.size = A at hD ⊢
  have hA : ∀ q : Nat, s.heap.size ≤ q → A q := fun q h => by rw [← hAe]; exact Or.inr h
  have hS : va_S A s.heap s.heap [] := va_S.rf
  have hP : va_P D vwCl [(h0, .inr (11, [.ref q_1, .ref q_3, .ref q_4, .ref q_25, .ref q_46, .ref q_50, .ref q_54, .ref q_58, .ref q_62, .int n_1, .int n_2, .ref q_63, .ref q_64, .ref q_67, .ref q_85, .ref q_90, .ref q_93])), (q_1, .inr (9, [.ref q1_2, .int (nI L), .int fa, .int ki, .int nu, .int sg, .long wo, .int ne, .int pl])), (q1_2, .inl (cy 0, 1000, .inl f0))] s.heap := hP
  have hl := lv_entry ([.ref h0, .long a1, .long a2, .long a3]) (n := 7) (Nat.le_of_ble_eq_true rfl)
  rw [lg_entry_eq]
  generalize (lg_sl ([.ref h0, .long a1, .long a2, .long a3]) ++ List.replicate (7 - (lg_sl ([.ref h0, .long a1, .long a2, .long a3])).length) Slot.unset).toArray = ls at hl ⊢
  have hl : lv_has ls 7 [(0, .ref h0), (1, .long a1), (3, .long a2), (5, .long a3)] := hl
  refine w_nm (fun Q hQ => ?_)
  refine lv_aload_n hx hb dX11_feed_0 rfl (lv_at hl 0 rfl) ?_
  refine va_get (D := D) (ci := 11) (v := .ref q_1) (C := RX11) (T := TX11) (N := 17) hx hb hts (inC ibX11) hown hG.1 hP 0 rfl rfl 0 (by decide) (hg _ k_420) (fun _ h9 => h9) rfl dX11_feed_1 ?_
  refine lv_lload_n hx hb dX11_feed_4 rfl (lv_at hl 1 rfl) ?_
  refine x_v (wr := [(h0, .inr (11, [.ref q_1, .ref q_3, .ref q_4, .ref q_25, .ref q_46, .ref q_50, .ref q_54, .ref q_58, .ref q_62, .int n_1, .int n_2, .ref q_63, .ref q_64, .ref q_67, .ref q_85, .ref q_90, .ref q_93]))]) hP hD hS hA [1, 2] [0] rfl rfl (by decide) (by decide) (va_runV (As := [.long a1]) (rest := []) ⟨hx, hb, hml, hown, hts⟩ (c_X9_addBytes l D cy q_1 q1_2 L fa ki nu sg wo ne pl f0 a1 s.heap.size hL) (cwV 1 hts (gV km_X11_103 ki_X9_addBytes kz_X9_addBytes kn_X9 kc_X9_addBytes) rfl rfl rfl (by decide +kernel) ⟨(Nat.le_of_ble_eq_true rfl), (Nat.le_of_ble_eq_true rfl)⟩) (preV hG hP hD [1, 2] rfl (by decide) 9 1 rfl rfl) rfl rfl hl.1 rfl (lv_room (Nat.le_of_ble_eq_true rfl)) dX11_feed_5 ⟨(Nat.le_of_ble_eq_true rfl), (Nat.le_of_ble_eq_true rfl)⟩) (fun H locs hB hj hS => ?_)
  obtain ⟨hP1, hD1⟩ := hB
  obtain ⟨hP, hD⟩ := hj _ hP1 hD1
  have hP : va_P D vwCl [(h0, .inr (11, [.ref q_1, .ref q_3, .ref q_4, .ref q_25, .ref q_46, .ref q_50, .ref q_54, .ref q_58, .ref q_62, .int n_1, .int n_2, .ref q_63, .ref q_64, .ref q_67, .ref q_85, .ref q_90, .ref q_93])), (q_1, .inr (9, [.ref q1_2, .int (nI (cb L a1 8)), .int fa, .int ki, .int nu, .int sg, .long wo, .int ne, .int pl])), (q1_2, .inl (cy 0, 1000, .inl (fb f0 L a1 8)))] H := hP
  have hD : va_D A [(h0, .inr (11, [.ref q_1, .ref q_3, .ref q_4, .ref q_25, .ref q_46, .ref q_50, .ref q_54, .ref q_58, .ref q_62, .int n_1, .int n_2, .ref q_63, .ref q_64, .ref q_67, .ref q_85, .ref q_90, .ref q_93])), (q_1, .inr (9, [.ref q1_2, .int (nI (cb L a1 8)), .int fa, .int ki, .int nu, .int sg, .long wo, .int ne, .int pl])), (q1_2, .inl (cy 0, 1000, .inl (fb f0 L a1 8)))] := hD
  refine lv_aload_n hx hb dX11_feed_8 rfl (lv_at hl 0 rfl) ?_
  refine va_get (D := D) (ci := 11) (v := .ref q_1) (C := RX11) (T := TX11) (N := 17) hx hb hts (inC ibX11) hown hG.1 hP 0 rfl rfl 0 (by decide) (hg _ k_420) (fun _ h9 => h9) rfl dX11_feed_9 ?_
  refine lv_lload_n hx hb dX11_feed_12 rfl (lv_at hl 2 rfl) ?_
  refine x_v (wr := [(h0, .inr (11, [.ref q_1, .ref q_3, .ref q_4, .ref q_25, .ref q_46, .ref q_50, .ref q_54, .ref q_58, .ref q_62, .int n_1, .int n_2, .ref q_63, .ref q_64, .ref q_67, .ref q_85, .ref q_90, .ref q_93]))]) hP hD hS hA [1, 2] [0] rfl rfl (by decide) (by decide) (va_runV (As := [.long a2]) (rest := []) ⟨hx, hb, hml, hown, hts⟩ (c_X9_addBytes l D cy q_1 q1_2 (cb L a1 8) fa ki nu sg wo ne pl (fb f0 L a1 8) a2 H.size (cb_le a1 hL 8)) (cwV 1 hts (gV km_X11_103 ki_X9_addBytes kz_X9_addBytes kn_X9 kc_X9_addBytes) rfl rfl rfl (by decide +kernel) ⟨(Nat.le_of_ble_eq_true rfl), (Nat.le_of_ble_eq_true rfl)⟩) (preV hG hP hD [1, 2] rfl (by decide) 9 1 rfl rfl) rfl rfl hl.1 rfl (lv_room (Nat.le_of_ble_eq_true rfl)) dX11_feed_13 ⟨(Nat.le_of_ble_eq_true rfl), (Nat.le_of_ble_eq_true rfl)⟩) (fun H locs hB hj hS => ?_)
  obtain ⟨hP1, hD1⟩ := hB
  obtain ⟨hP, hD⟩ := hj _ hP1 hD1
  have hP : va_P D vwCl [(h0, .inr (11, [.ref q_1, .ref q_3, .ref q_4, .ref q_25, .ref q_46, .ref q_50, .ref q_54, .ref q_58, .ref q_62, .int n_1, .int n_2, .ref q_63, .ref q_64, .ref q_67, .ref q_85, .ref q_90, .ref q_93])), (q_1, .inr (9, [.ref q1_2, .int (nI (cb (cb L a1 8) a2 8)), .int fa, .int ki, .int nu, .int sg, .long wo, .int ne, .int pl])), (q1_2, .inl (cy 0, 1000, .inl (fb (fb f0 L a1 8) (cb L a1 8) a2 8)))] H := hP
  have hD : va_D A [(h0, .inr (11, [.ref q_1, .ref q_3, .ref q_4, .ref q_25, .ref q_46, .ref q_50, .ref q_54, .ref q_58, .ref q_62, .int n_1, .int n_2, .ref q_63, .ref q_64, .ref q_67, .ref q_85, .ref q_90, .ref q_93])), (q_1, .inr (9, [.ref q1_2, .int (nI (cb (cb L a1 8) a2 8)), .int fa, .int ki, .int nu, .int sg, .long wo, .int ne, .int pl])), (q1_2, .inl (cy 0, 1000, .inl (fb (fb f0 L a1 8) (cb L a1 8) a2 8)))] := hD
  refine lv_aload_n hx hb dX11_feed_16 rfl (lv_at hl 0 rfl) ?_
  refine va_get (D := D) (ci := 11) (v := .ref q_1) (C := RX11) (T := TX11) (N := 17) hx hb hts (inC ibX11) hown hG.1 hP 0 rfl rfl 0 (by decide) (hg _ k_420) (fun _ h9 => h9) rfl dX11_feed_17 ?_
  refine lv_lload hx hb dX11_feed_20 (lv_at hl 3 rfl) ?_
  refine x_v (wr := [(h0, .inr (11, [.ref q_1, .ref q_3, .ref q_4, .ref q_25, .ref q_46, .ref q_50, .ref q_54, .ref q_58, .ref q_62, .int n_1, .int n_2, .ref q_63, .ref q_64, .ref q_67, .ref q_85, .ref q_90, .ref q_93]))]) hP hD hS hA [1, 2] [0] rfl rfl (by decide) (by decide) (va_runV (As := [.long a3]) (rest := []) ⟨hx, hb, hml, hown, hts⟩ (c_X9_addBytes l D cy q_1 q1_2 (cb (cb L a1 8) a2 8) fa ki nu sg wo ne pl (fb (fb f0 L a1 8) (cb L a1 8) a2 8) a3 H.size (cb_le a2 (cb_le a1 hL 8) 8)) (cwV 1 hts (gV km_X11_103 ki_X9_addBytes kz_X9_addBytes kn_X9 kc_X9_addBytes) rfl rfl rfl (by decide +kernel) ⟨(Nat.le_of_ble_eq_true rfl), (Nat.le_of_ble_eq_true rfl)⟩) (preV hG hP hD [1, 2] rfl (by decide) 9 1 rfl rfl) rfl rfl hl.1 rfl (lv_room (Nat.le_of_ble_eq_true rfl)) dX11_feed_22 ⟨(Nat.le_of_ble_eq_true rfl), (Nat.le_of_ble_eq_true rfl)⟩) (fun H locs hB hj hS => ?_)
  obtain ⟨hP1, hD1⟩ := hB
  obtain ⟨hP, hD⟩ := hj _ hP1 hD1
  have hP : va_P D vwCl [(h0, .inr (11, [.ref q_1, .ref q_3, .ref q_4, .ref q_25, .ref q_46, .ref q_50, .ref q_54, .ref q_58, .ref q_62, .int n_1, .int n_2, .ref q_63, .ref q_64, .ref q_67, .ref q_85, .ref q_90, .ref q_93])), (q_1, .inr (9, [.ref q1_2, .int (nI (cb (cb (cb L a1 8) a2 8) a3 8)), .int fa, .int ki, .int nu, .int sg, .long wo, .int ne, .int pl])), (q1_2, .inl (cy 0, 1000, .inl (fb (fb (fb f0 L a1 8) (cb L a1 8) a2 8) (cb (cb L a1 8) a2 8) a3 8)))] H := hP
  have hD : va_D A [(h0, .inr (11, [.ref q_1, .ref q_3, .ref q_4, .ref q_25, .ref q_46, .ref q_50, .ref q_54, .ref q_58, .ref q_62, .int n_1, .int n_2, .ref q_63, .ref q_64, .ref q_67, .ref q_85, .ref q_90, .ref q_93])), (q_1, .inr (9, [.ref q1_2, .int (nI (cb (cb (cb L a1 8) a2 8) a3 8)), .int fa, .int ki, .int nu, .int sg, .long wo, .int ne, .int pl])), (q1_2, .inl (cy 0, 1000, .inl (fb (fb (fb f0 L a1 8) (cb L a1 8) a2 8) (cb (cb L a1 8) a2 8) a3 8)))] := hD
  refine lv_aload_n hx hb dX11_feed_25 rfl (lv_at hl 0 rfl) ?_
  refine va_get (D := D) (ci := 11) (v := .ref q_1) (C := RX11) (T := TX11) (N := 17) hx hb hts (inC ibX11) hown hG.1 hP 0 rfl rfl 0 (by decide) (hg _ k_420) (fun _ h9 => h9) rfl dX11_feed_26 ?_
  refine va_get (D := D) (ci := 9) (v := .int (nI (cb (cb (cb L a1 8) a2 8) a3 8))) (C := RX9) (T := TX9) (N := 9) hx hb hts (inC ibX9) hown hG.1 hP 1 rfl rfl 1 (by decide) (hg _ k_43) (fun _ h9 => h9) rfl dX11_feed_29 ?_
  have hP9 := hP.sub (ws' := [(h0, .inr (11, [.ref q_1, .ref q_3, .ref q_4, .ref q_25, .ref q_46, .ref q_50, .ref q_54, .ref q_58, .ref q_62, .int n_1, .int n_2, .ref q_63, .ref q_64, .ref q_67, .ref q_85, .ref q_90, .ref q_93])), (q_1, .inr (9, [.ref q1_2, .int (nI (cb (cb (cb L a1 8) a2 8) a3 8)), .int fa, .int ki, .int nu, .int sg, .long wo, .int ne, .int pl])), (q1_2, .inl (cy 0, 1000, .inl (fb (fb (fb f0 L a1 8) (cb L a1 8) a2 8) (cb (cb L a1 8) a2 8) a3 8)))]) [0, 1, 2] rfl
  have hD9 := hD.sub (ws' := [(h0, .inr (11, [.ref q_1, .ref q_3, .ref q_4, .ref q_25, .ref q_46, .ref q_50, .ref q_54, .ref q_58, .ref q_62, .int n_1, .int n_2, .ref q_63, .ref q_64, .ref q_67, .ref q_85, .ref q_90, .ref q_93])), (q_1, .inr (9, [.ref q1_2, .int (nI (cb (cb (cb L a1 8) a2 8) a3 8)), .int fa, .int ki, .int nu, .int sg, .long wo, .int ne, .int pl])), (q1_2, .inl (cy 0, 1000, .inl (fb (fb (fb f0 L a1 8) (cb L a1 8) a2 8) (cb (cb L a1 8) a2 8) a3 8)))]) [0, 1, 2] (by decide) rfl
  subst hQ
  exact W.iret (v := nI (cb (cb (cb L a1 8) a2 8) a3 8)) hx hb hr (fun t ht hW => qi_mk (by rw [ht]; exact ⟨rfl, hP9, hD9⟩) (hS.F ht)) hS.2.2 dX11_feed_32
