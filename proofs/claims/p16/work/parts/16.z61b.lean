theorem i7 {i : Int32} {Ls : Nat} (hi0 : 0 ≤ i.toInt) (hi7 : i.toInt + 7 ≤ (Ls : Int)) (hLs : Ls ≤ 3584) : (i + 7).toInt = i.toInt + 7 := by
  have e : (7 : Int32).toInt = 7 := rfl
  rw [i32_add (by rw [e]; unfold mnI; omega) (by rw [e]; unfold mxI; omega), e]
theorem i70 {i : Int32} {Ls : Nat} (hi0 : 0 ≤ i.toInt) (hi7 : i.toInt + 7 ≤ (Ls : Int)) (hLs : Ls ≤ 3584) : 0 ≤ (i + 7).toInt := by
  rw [i7 hi0 hi7 hLs]
  omega
theorem i7n {i : Int32} {n Ls : Nat} (hi0 : 0 ≤ i.toInt) (hi7 : i.toInt + 7 ≤ (Ls : Int)) (hLs : Ls ≤ 3584) (hn : i.toInt + (n : Int) = (Ls : Int)) : (i + 7).toInt + ((n - 7 : Nat) : Int) = (Ls : Int) := by
  rw [i7 hi0 hi7 hLs]
  omega
theorem ix_in0 {i : Int32} {L : Nat} (h0 : 0 ≤ i.toInt) (h7 : i.toInt + 7 ≤ (L : Int)) : vp_in i L := by
  rw [vp_in_iff]
  omega
def mkOK (mwl : Nat → Nat) (mww mwd : Nat → Nat → Int32) : Prop := ∀ j, j < 4 → mwl j ≤ 40 ∧ wOK (mww j) (mwd j)
def liOK (li : Nat → Int32) : Prop := ∀ j, j < 5 → vp_in (li j) 41
def hHC {cd : Nat → Int32} (h : eNN cd) : ∀ k, k < 1000 → 0 ≤ (cd k).toInt := fun k _ => h k
theorem hZU {zu : Nat → Int32} (h : cuOK zu) : ∀ j, j < 6 → vp_in (zu j) 64 := fun j hj => h j (by omega)
theorem cpy_lt {f g : Nat → Int32} {n j : Nat} (h : j < n) : va_cpy f g 0 0 n j = f j := by
  unfold va_cpy
  rw [if_pos ⟨Nat.zero_le _, by omega⟩, Nat.sub_zero, Nat.zero_add]
theorem wOK_cpy {a b c d : Nat → Int32} (h : wOK a b) : wOK (va_cpy a c 0 0 40) (va_cpy b d 0 0 40) := by
  intro j hj
  rw [cpy_lt hj, cpy_lt hj]
  exact h j hj
theorem hf_fb {f : Nat → Int32} {L : Nat} {a b c : Int64} (h : ∀ j, 0 ≤ (f j).toInt ∧ (f j).toInt ≤ 127) : ∀ j, 0 ≤ ((fb (fb (fb f L a 8) (cb L a 8) b 8) (cb (cb L a 8) b 8) c 8) j).toInt ∧ ((fb (fb (fb f L a 8) (cb L a 8) b 8) (cb (cb L a 8) b 8) c 8) j).toInt ≤ 127 := fb_S (fb_S (fb_S h 8) 8) 8
theorem hL_cb {L : Nat} {a b c : Int64} (h : L ≤ 1000) : cb (cb (cb L a 8) b 8) c 8 ≤ 1000 := cb_le c (cb_le b (cb_le a h 8) 8) 8
theorem kd_b {dn : Nat} {s un : Nat → Int32} (h : dn ≤ 16) : (F_X12_keeps dn s un).1 ≤ 16 := by
  unfold F_X12_keeps
  split
  · show dn - 1 + 1 ≤ 16
    rename_i q
    have h1 := nI_inj (n := 16) (m := dn) (by omega) (by decide) q
    omega
  · show dn + 1 ≤ 16
    rename_i q
    have h1 : ¬ dn = 16 := fun e => q (by rw [e]; rfl)
    omega

set_option maxHeartbeats 4000000 in
set_option maxRecDepth 100000 in
theorem eat_b {ex : Int32} {dx : Int32} {slow : Int32} {pnx : Nat} {pln : Nat} {dy : Int32} {sr : Int32} {il : Int32} {fu : Nat → Int32} {ae : Nat → Int32} {hu : Nat → Int32} {np : Nat} {nd : Nat} {res : Int32} {kd : Nat → Int32} {hg : Nat → Int32} {sf : Nat → Int32} {st : Nat → Int32} {co : Nat → Int32} {gf : Nat → Int32} {pd : Nat → Int32} {ps : Nat → Int32} {pi : Nat → Int32} {pf : Nat → Nat → Int32} {pe : Nat → Nat → Int32} {ph : Nat → Nat → Int32} (hpn : pnx < 16) (hpl : pln ≤ 16) : (F_X11_eat ex dx slow pnx pln dy sr il fu ae hu np nd res kd hg sf st co gf pd ps pi pf pe ph).1 < 16 ∧ (F_X11_eat ex dx slow pnx pln dy sr il fu ae hu np nd res kd hg sf st co gf pd ps pi pf pe ph).2.1 ≤ 16 := by
  unfold F_X11_eat
  split
  · exact ⟨hpn, hpl⟩
  · dsimp only
    split <;> exact ⟨Nat.mod_lt _ (by decide), Nat.min_le_right _ _⟩

set_option maxHeartbeats 4000000 in
set_option maxRecDepth 100000 in
theorem abr_b {px : Int32} {dx : Int32} {pnx : Nat} {pln : Nat} {dy : Int32} {sr : Int32} {il : Int32} {fu : Nat → Int32} {ae : Nat → Int32} {hu : Nat → Int32} {np : Nat} {nd : Nat} {ga : Nat → Int32} {pd : Nat → Int32} {ps : Nat → Int32} {pi : Nat → Int32} {pf : Nat → Nat → Int32} {pe : Nat → Nat → Int32} {ph : Nat → Nat → Int32} (hpn : pnx < 16) (hpl : pln ≤ 16) : (F_X11_abroad px dx pnx pln dy sr il fu ae hu np nd ga pd ps pi pf pe ph).1 < 16 ∧ (F_X11_abroad px dx pnx pln dy sr il fu ae hu np nd ga pd ps pi pf pe ph).2.1 ≤ 16 := by
  unfold F_X11_abroad
  split
  · exact ⟨hpn, hpl⟩
  · split
    · exact ⟨hpn, hpl⟩
    · exact ⟨Nat.mod_lt _ (by decide), Nat.min_le_right _ _⟩

set_option maxHeartbeats 4000000 in
set_option maxRecDepth 100000 in
theorem fast_b {pnx : Nat} {pln : Nat} {dy : Int32} {sr : Int32} {il : Int32} {fu : Nat → Int32} {ae : Nat → Int32} {hu : Nat → Int32} {np : Nat} {hg : Nat → Int32} {pd : Nat → Int32} {ps : Nat → Int32} {pi : Nat → Int32} {pf : Nat → Nat → Int32} {pe : Nat → Nat → Int32} {ph : Nat → Nat → Int32} : (F_X11_fast pnx pln dy sr il fu ae hu np hg pd ps pi pf pe ph).1 < 16 ∧ (F_X11_fast pnx pln dy sr il fu ae hu np hg pd ps pi pf pe ph).2.1 ≤ 16 := by
  unfold F_X11_fast
  exact ⟨Nat.mod_lt _ (by decide), Nat.min_le_right _ _⟩

set_option maxHeartbeats 4000000 in
set_option maxRecDepth 100000 in
theorem undo_b {pnx : Nat} {pln : Nat} {dy : Int32} {sr : Int32} {il : Int32} {fu : Nat → Int32} {ae : Nat → Int32} {hu : Nat → Int32} {pd : Nat → Int32} {ps : Nat → Int32} {pi : Nat → Int32} {pf : Nat → Nat → Int32} {pe : Nat → Nat → Int32} {ph : Nat → Nat → Int32} (hpn : pnx < 16) (hpl : pln ≤ 16) : (F_X11_undo pnx pln dy sr il fu ae hu pd ps pi pf pe ph).1 < 16 ∧ (F_X11_undo pnx pln dy sr il fu ae hu pd ps pi pf pe ph).2.1 ≤ 16 := by
  unfold F_X11_undo
  split
  · exact ⟨hpn, hpl⟩
  · exact ⟨Nat.mod_lt _ (by decide), Nat.le_trans (Nat.sub_le _ _) hpl⟩

set_option maxHeartbeats 4000000 in
set_option maxRecDepth 100000 in
theorem mark_b {ml : Nat → Int32} {md : Nat → Int32} {ms : Nat → Int32} {mf : Nat → Nat → Int32} {me : Nat → Nat → Int32} {mwh : Nat → Nat → Int32} {mww : Nat → Nat → Int32} {mwd : Nat → Nat → Int32} {mwl : Nat → Nat} {mt : Nat → Nat → Int32} {q : Nat} {bk : Int32} {pln : Nat} {dy : Int32} {sr : Int32} {fu : Nat → Int32} {ae : Nat → Int32} {wl : Nat} {wh : Nat → Int32} {ww : Nat → Int32} {wd : Nat → Int32} {to : Nat → Int32} (hq : q < 4) (hpl : pln ≤ 16) (hwl : wl ≤ 40) (hwo : wOK ww wd) (hmk : mkOK mwl mww mwd) : (F_X11_markN q bk pln dy sr fu ae wl wh ww wd to ml md ms mf me mwl mwh mww mwd mt).1 ≤ 16 ∧ (F_X11_markN q bk pln dy sr fu ae wl wh ww wd to ml md ms mf me mwl mwh mww mwd mt).2.2.2.2.2.1 ≤ 40 ∧ wOK (F_X11_markN q bk pln dy sr fu ae wl wh ww wd to ml md ms mf me mwl mwh mww mwd mt).2.2.2.2.2.2.2.1 (F_X11_markN q bk pln dy sr fu ae wl wh ww wd to ml md ms mf me mwl mwh mww mwd mt).2.2.2.2.2.2.2.2.1 ∧ mkOK (F_X11_markN q bk pln dy sr fu ae wl wh ww wd to ml md ms mf me mwl mwh mww mwd mt).2.2.2.2.2.2.2.2.2.2.2.2.2.2.2.1 (F_X11_markN q bk pln dy sr fu ae wl wh ww wd to ml md ms mf me mwl mwh mww mwd mt).2.2.2.2.2.2.2.2.2.2.2.2.2.2.2.2.2.1 (F_X11_markN q bk pln dy sr fu ae wl wh ww wd to ml md ms mf me mwl mwh mww mwd mt).2.2.2.2.2.2.2.2.2.2.2.2.2.2.2.2.2.2.1 := by
  unfold F_X11_markN
  split
  · refine ⟨hpl, hwl, hwo, fun j hj => ?_⟩
    show upN mwl q wl j ≤ 40 ∧ wOK (upN mww q (va_cpy ww (mww q) 0 0 40) j) (upN mwd q (va_cpy wd (mwd q) 0 0 40) j)
    unfold upN
    by_cases c : j = q
    · rw [if_pos c, if_pos c, if_pos c]
      exact ⟨hwl, wOK_cpy hwo⟩
    · rw [if_neg c, if_neg c, if_neg c]
      exact hmk j hj
  · split
    · exact ⟨hpl, hwl, hwo, hmk⟩
    · exact ⟨Nat.zero_le _, (hmk q hq).1, wOK_cpy (hmk q hq).2, hmk⟩

set_option maxHeartbeats 4000000 in
set_option maxRecDepth 100000 in
theorem reat_b {cf : Nat} {ct : Nat} {np : Nat} {nd : Nat} {ex : Int32} {dx : Int32} {slow : Int32} {dn : Nat} {x55 : Int32} {ho : Nat → Int32} {zk : Nat → Int32} {zh : Nat → Int32} {zt : Nat → Int32} {zf : Nat → Int32} {ze : Nat → Int32} {zb : Nat → Int32} {za : Nat → Int32} {zo : Nat → Int32} {cd : Nat → Int32} {kp : Nat → Int32} {kb : Nat → Int32} {ah : Nat → Int32} {ag : Nat → Int32} {su : Nat → Int32} {sb : Nat → Int32} {te : Nat → Int32} {tb : Nat → Int32} {bn : Nat → Int32} {vo : Nat → Int32} {s : Nat → Int32} {un : Nat → Int32} (hdn : dn ≤ 16) : (F_X12_eat cf ct np nd ex dx slow dn x55 ho zk zh zt zf ze zb za zo cd kp kb ah ag su sb te tb bn vo s un).2.1 ≤ 16 := by
  unfold F_X12_eat
  repeat' split
  all_goals first | exact hdn | (dsimp only; split <;> exact kd_b hdn) | exact kd_b hdn

set_option maxHeartbeats 4000000 in
set_option maxRecDepth 100000 in
theorem rabr_b {cf : Nat} {ct : Nat} {np : Nat} {nd : Nat} {px : Int32} {dx : Int32} {dn : Nat} {zt : Nat → Int32} {zb : Nat → Int32} {za : Nat → Int32} {cd : Nat → Int32} {kp : Nat → Int32} {kb : Nat → Int32} {ah : Nat → Int32} {ag : Nat → Int32} {su : Nat → Int32} {sb : Nat → Int32} {te : Nat → Int32} {tb : Nat → Int32} {bn : Nat → Int32} {vo : Nat → Int32} {s : Nat → Int32} {un : Nat → Int32} (hdn : dn ≤ 16) : (F_X12_abroad cf ct np nd px dx dn zt zb za cd kp kb ah ag su sb te tb bn vo s un).2.1 ≤ 16 := by
  unfold F_X12_abroad
  repeat' split
  all_goals first | exact hdn | (dsimp only; split <;> exact kd_b hdn) | exact kd_b hdn

set_option maxHeartbeats 4000000 in
set_option maxRecDepth 100000 in
theorem rfast_b {np : Nat} {dn : Nat} {zh : Nat → Int32} {s : Nat → Int32} {un : Nat → Int32} (hdn : dn ≤ 16) : (F_X12_fast np dn zh s un).2.1 ≤ 16 := by
  unfold F_X12_fast
  exact kd_b hdn

set_option maxHeartbeats 4000000 in
set_option maxRecDepth 100000 in
theorem rundo_b {dn : Nat} {s : Nat → Int32} {un : Nat → Int32} (hdn : dn ≤ 16) : (F_X12_undo dn s un).2.1 ≤ 16 := by
  unfold F_X12_undo
  split
  · exact hdn
  · exact Nat.le_trans (Nat.sub_le _ _) hdn

theorem li_u {li : Nat → Int32} {a b : Nat} (h : liOK li) (hb : b < 5) : liOK (upd li a (li b)) := by
  intro j hj
  by_cases q : j = a
  · rw [q, pk_us]
    exact h b hb
  · rw [pk_un q]
    exact h j hj
theorem ly_li {fm tm : Nat} {li lw lx ly lz : Nat → Int32} (h : liOK li) (hf : fm < 5) : liOK (F_X12_laysLines fm tm li lw lx ly lz).1 := li_u h hf
theorem mz_lt {mz : Int32} (h : ¬ F_X12_within_f mz 0 3 = 0) : mz.toNatClampNeg < 4 := by
  have h1 := wi_of h
  have h2 := nI_ofle (n := 3) h1.1 (by decide) h1.2
  omega

set_option maxHeartbeats 4000000 in
set_option maxRecDepth 100000 in
theorem rmark_b {mz : Int32} {bk : Int32} {dn : Nat} {li : Nat → Int32} {lw : Nat → Int32} {lo : Nat → Int32} {ld : Nat → Int32} {ls : Nat → Int32} {to : Nat → Int32} {s : Nat → Int32} {mk : Nat → Int32} {il : Nat → Int32} (hdn : dn ≤ 16) (hli : liOK li) (hlo : lOK lo ld) : (F_X12_mark mz bk dn li lw lo ld ls to s mk il).2.1 ≤ 16 ∧ liOK (F_X12_mark mz bk dn li lw lo ld ls to s mk il).2.2.1 ∧ lOK (F_X12_mark mz bk dn li lw lo ld ls to s mk il).2.2.2.2.1 (F_X12_mark mz bk dn li lw lo ld ls to s mk il).2.2.2.2.2.1 := by
  unfold F_X12_mark
  split
  · exact ⟨hdn, hli, hlo⟩
  · rename_i c
    have hm := mz_lt c
    split
    · exact ⟨hdn, ly_li (fm := 0) (tm := 1 + mz.toNatClampNeg) (li := li) (lw := lw) (lx := lo) (ly := ld) (lz := ls) hli (by decide), lyO (fm := 0) (tm := 1 + mz.toNatClampNeg) (li := li) (lw := lw) (lx := lo) (ly := ld) (lz := ls) (by omega) (by decide) hlo⟩
    · split
      · exact ⟨hdn, hli, hlo⟩
      · exact ⟨Nat.zero_le _, ly_li (fm := 1 + mz.toNatClampNeg) (tm := 0) (li := li) (lw := lw) (lx := lo) (ly := ld) (lz := ls) hli (by omega), lyO (fm := 1 + mz.toNatClampNeg) (tm := 0) (li := li) (lw := lw) (lx := lo) (ly := ld) (lz := ls) (by omega) (by omega) hlo⟩
