theorem fr_eats1 {a1 a2 a3 a4 a5 a6 a7 a8 a9 a10 : Nat → Int32} : ∀ (m k : Nat) (s0 : Nat → Int32), (F_X12_eats_L39 m k s0 a1 a2 a3 a4 a5 a6 a7 a8 a9 a10).1 = s0
  | 0, _, _ => rfl
  | m + 1, k, s0 => fr_eats1 m (k + 1) s0
theorem fr_eats2 {cf ct np e d : Nat} {slow : Int32} {zk zt zf ze zb za cd s : Nat → Int32} : ∀ (m k : Nat) (s0 a1 a2 a3 a4 a5 a6 a7 a8 a9 a10 : Nat → Int32) (j : Nat), k + m ≤ 6 → (j < 3 ∨ 9 ≤ j) → (F_X12_eats_L39_2 cf ct np e d slow zk zt zf ze zb za cd s m k s0 a1 a2 a3 a4 a5 a6 a7 a8 a9 a10).1 j = s0 j
  | 0, _, _, _, _, _, _, _, _, _, _, _, _, _, _, _ => rfl
  | m + 1, k, s0, a1, a2, a3, a4, a5, a6, a7, a8, a9, a10, j, h, hj => by
    rw [F_X12_eats_L39_2_s]
    split
    · exact (fr_eats2 m (k + 1) _ _ _ _ _ _ _ _ _ _ _ j (by omega) hj).trans (pk_un (by omega))
    · exact fr_eats2 m (k + 1) _ _ _ _ _ _ _ _ _ _ _ j (by omega) hj
theorem BR_eat {np e : Nat} {dy sr c x : Int32} {ae s s1 : Nat → Int32} (hb : BR np 0 dy sr ae s) (hd : aOK dy) (hs : ∀ j, (j < 3 ∨ 9 ≤ j) → s1 j = upd s 1 (s 1 - c) j) : BR np 0 dy (sr - c) (upd ae e dy) (upd (upd s1 2 x) (9 + e) ((upd s1 2 x) 0)) := by
  obtain ⟨h0, h1, h2⟩ := hb
  have e0 : upd s1 2 x 0 = dy := by
    rw [pk_un (by decide), hs 0 (Or.inl (by decide)), pk_un (by decide)]
    exact h0
  refine ⟨by rw [pk_un (by omega)]; exact e0, ?_, fun q hq => ?_⟩
  · rw [pk_un (by omega), show 0 + 1 = 1 from rfl, pk_un (by decide), hs 1 (Or.inl (by decide)), pk_us, ← h1]
  · rw [show 0 + 9 + q = 9 + q by omega]
    by_cases c1 : q = e
    · subst c1
      rw [pk_us, pk_us, e0]
      exact ⟨rfl, hd⟩
    · obtain ⟨h3, h4⟩ := h2 q hq
      rw [show 0 + 9 + q = 9 + q by omega] at h3
      rw [pk_un (by omega), pk_un (by omega), hs _ (Or.inr (by omega)), pk_un (by omega), pk_un c1]
      exact ⟨h3, h4⟩
theorem eats_lite {cf ct np e d : Nat} {slow dy sr res c : Int32} {ho zk zh zt zf ze zb za zo cd kp kb ah ag su sb te tb bn vo s un : Nat → Int32} {ae : Nat → Int32} (hn : np ≤ 6) (hb : BR np 0 dy sr ae s) (he : e < np) (hd : aOK dy) (hr : ho 4 = res) (hc : F_X12_costOf e d zk zo = c) : BR np 0 (dy + 1) (sr - c) (upd ae e dy) (F_X12_eats cf ct np e d slow ho zk zh zt zf ze zb za zo cd kp kb ah ag su sb te tb bn vo s).2.2.2.2.2.2.2.2.2.2.2.1 ∧ (F_X12_eats cf ct np e d slow ho zk zh zt zf ze zb za zo cd kp kb ah ag su sb te tb bn vo s).2.2.2.2.2.2.2.2.2.2.2.2 = (if F_X8_wouldBeIll e dy ae res = 0 then 1 else 0) := by
  have hi := ill_eq hb he hr
  unfold F_X12_eats
  rw [hi, hc]
  by_cases c0 : F_X8_wouldBeIll e dy ae res = 0
  · rw [if_pos c0, if_pos c0]
    exact ⟨BR_ends hn (BR_eat hb hd (fun j hj => fr_eats2 (np - 0) 0 _ _ _ _ _ _ _ _ _ _ _ j (by omega) hj)), rfl⟩
  · rw [if_neg c0, if_neg c0]
    exact ⟨BR_ends hn (BR_eat hb hd (fun j _ => congrFun (fr_eats1 (np - 0) 0 _) j)), rfl⟩
theorem tm_lite {e d np : Nat} {slow dy sr il res : Int32} {fu ae kd sf st co gf : Nat → Int32} : (F_X8_takesMeal e d slow dy sr il fu ae np res kd sf st co gf).1 = sr - F_X0_costBy e d kd co ∧ (F_X8_takesMeal e d slow dy sr il fu ae np res kd sf st co gf).2.2.2.1 = upd ae e dy ∧ (F_X8_takesMeal e d slow dy sr il fu ae np res kd sf st co gf).2.2.2.2 = F_X8_wouldBeIll e dy ae res := by
  unfold F_X8_takesMeal
  dsimp only
  split <;> exact ⟨rfl, rfl, rfl⟩
set_option maxHeartbeats 4000000 in
theorem eat_lite {ex dx slow : Int32} {dy sr il res x55 : Int32} {fu ae hu kd hg ta vt sf st co bi sa gf ga pd ps pi : Nat → Int32} {pf pe ph : Nat → Nat → Int32} {pnx pln n np nd cf ct : Nat} {ho zk zh zt zf ze zb za zo cd kp kb ah ag su sb te tb bn vo s un : Nat → Int32} {vr : Nat → Int32} (hn : np ≤ 6) (hnd : nd ≤ 5) (h7 : 7 ≤ n) (hpn : pnx < 16) (hpl : pln ≤ 16) (hb : BR np 0 dy sr ae s) (ht : tOK n dy) (hu_ : UR n np pnx pln pd ps pe un) (hp : pR np kd hg ta vt zk zh zt vr) (hd : dR nd bi sa co zb za zo) (hk : kR np sf st zf ze) (hre : ho 4 = res) : (F_X11_eat ex dx slow pnx pln dy sr il fu ae hu np nd res kd hg sf st co gf pd ps pi pf pe ph).2.2.2.2.2.2.2.2.2.2.2.2.2.2 = (F_X12_eat cf ct np nd ex dx slow pln x55 ho zk zh zt zf ze zb za zo cd kp kb ah ag su sb te tb bn vo s un).2.2.2.2.2.2.2.2.2.2.2.2.2.2.2 ∧ BR np 0 (F_X11_eat ex dx slow pnx pln dy sr il fu ae hu np nd res kd hg sf st co gf pd ps pi pf pe ph).2.2.1 (F_X11_eat ex dx slow pnx pln dy sr il fu ae hu np nd res kd hg sf st co gf pd ps pi pf pe ph).2.2.2.1 (F_X11_eat ex dx slow pnx pln dy sr il fu ae hu np nd res kd hg sf st co gf pd ps pi pf pe ph).2.2.2.2.2.2.1 (F_X12_eat cf ct np nd ex dx slow pln x55 ho zk zh zt zf ze zb za zo cd kp kb ah ag su sb te tb bn vo s un).2.2.2.2.2.2.2.2.2.2.2.2.2.1 ∧ tOK (n - 7) (F_X11_eat ex dx slow pnx pln dy sr il fu ae hu np nd res kd hg sf st co gf pd ps pi pf pe ph).2.2.1 ∧ (F_X12_eat cf ct np nd ex dx slow pln x55 ho zk zh zt zf ze zb za zo cd kp kb ah ag su sb te tb bn vo s un).2.1 = (F_X11_eat ex dx slow pnx pln dy sr il fu ae hu np nd res kd hg sf st co gf pd ps pi pf pe ph).2.1 ∧ UR (n - 7) np (F_X11_eat ex dx slow pnx pln dy sr il fu ae hu np nd res kd hg sf st co gf pd ps pi pf pe ph).1 (F_X11_eat ex dx slow pnx pln dy sr il fu ae hu np nd res kd hg sf st co gf pd ps pi pf pe ph).2.1 (F_X11_eat ex dx slow pnx pln dy sr il fu ae hu np nd res kd hg sf st co gf pd ps pi pf pe ph).2.2.2.2.2.2.2.2.1 (F_X11_eat ex dx slow pnx pln dy sr il fu ae hu np nd res kd hg sf st co gf pd ps pi pf pe ph).2.2.2.2.2.2.2.2.2.1 (F_X11_eat ex dx slow pnx pln dy sr il fu ae hu np nd res kd hg sf st co gf pd ps pi pf pe ph).2.2.2.2.2.2.2.2.2.2.2.2.1 (F_X12_eat cf ct np nd ex dx slow pln x55 ho zk zh zt zf ze zb za zo cd kp kb ah ag su sb te tb bn vo s un).2.2.2.2.2.2.2.2.2.2.2.2.2.2.1 := by
  by_cases p1 : F_X11_isPerson ex np = 0
  · have e1 : (F_X11_eat ex dx slow pnx pln dy sr il fu ae hu np nd res kd hg sf st co gf pd ps pi pf pe ph) = (pnx, pln, dy, sr, il, fu, ae, hu, pd, ps, pi, pf, pe, ph, (-1)) := if_pos (if_pos p1)
    have e2 : (F_X12_eat cf ct np nd ex dx slow pln x55 ho zk zh zt zf ze zb za zo cd kp kb ah ag su sb te tb bn vo s un) = (0, pln, x55, kp, kb, ah, ag, su, sb, te, tb, bn, vo, s, un, (-1)) := if_pos p1
    rw [e1, e2]
    exact ⟨rfl, hb, tOK_m ht (Nat.sub_le _ _), rfl, UR_m hu_ (Nat.sub_le _ _)⟩
  by_cases p2 : F_X11_isDish dx nd = 0
  · have e1 : (F_X11_eat ex dx slow pnx pln dy sr il fu ae hu np nd res kd hg sf st co gf pd ps pi pf pe ph) = (pnx, pln, dy, sr, il, fu, ae, hu, pd, ps, pi, pf, pe, ph, (-1)) := if_pos ((if_neg p1).trans (if_pos p2))
    have e2 : (F_X12_eat cf ct np nd ex dx slow pln x55 ho zk zh zt zf ze zb za zo cd kp kb ah ag su sb te tb bn vo s un) = (0, pln, x55, kp, kb, ah, ag, su, sb, te, tb, bn, vo, s, un, (-1)) := (if_neg p1).trans (if_pos p2)
    rw [e1, e2]
    exact ⟨rfl, hb, tOK_m ht (Nat.sub_le _ _), rfl, UR_m hu_ (Nat.sub_le _ _)⟩
  have hE := (isPe_of p1 hn).2
  have hD := (isDi_of p2 hnd).2
  have hC := can_eq (e := ex.toNatClampNeg) (d := dx.toNatClampNeg) hp hd hk hE hD hb.1 (show s 1 = sr from hb.2.1) ht.1
  by_cases p3 : F_X8_canEat ex.toNatClampNeg dx.toNatClampNeg dy sr kd sf st co = 0
  · have e1 : (F_X11_eat ex dx slow pnx pln dy sr il fu ae hu np nd res kd hg sf st co gf pd ps pi pf pe ph) = (pnx, pln, dy, sr, il, fu, ae, hu, pd, ps, pi, pf, pe, ph, (-1)) := if_pos ((if_neg p1).trans ((if_neg p2).trans (if_pos p3)))
    have e2 : (F_X12_eat cf ct np nd ex dx slow pln x55 ho zk zh zt zf ze zb za zo cd kp kb ah ag su sb te tb bn vo s un) = (0, pln, x55, kp, kb, ah, ag, su, sb, te, tb, bn, vo, s, un, (-1)) := (if_neg p1).trans ((if_neg p2).trans (if_pos (hC.trans p3)))
    rw [e1, e2]
    exact ⟨rfl, hb, tOK_m ht (Nat.sub_le _ _), rfl, UR_m hu_ (Nat.sub_le _ _)⟩
  have hcb : ¬ F_X11_canBeMeal ex dx dy sr np nd kd sf st co = 0 := by
    unfold F_X11_canBeMeal
    rw [if_neg p1, if_neg p2, if_neg p3]
    decide
  have hcc := cost_eq hp hd hE hD
  have h1 := eats_lite (cf := cf) (ct := ct) (slow := slow) (zh := zh) (zt := zt) (zf := zf) (ze := ze) (zb := zb) (za := za) (cd := cd) (kp := kp) (kb := kb) (ah := ah) (ag := ag) (su := su) (sb := sb) (te := te) (tb := tb) (bn := bn) (vo := vo) (un := un) hn hb hE (aOK_t ht) hre hcc
  have h2 := UR_keep hn hpn hpl hb ht hu_
  have h3 := tm_lite (e := ex.toNatClampNeg) (d := dx.toNatClampNeg) (np := np) (slow := slow) (dy := dy) (sr := sr) (il := il) (res := res) (fu := fu) (ae := ae) (kd := kd) (sf := sf) (st := st) (co := co) (gf := gf)
  unfold F_X11_eat F_X12_eat
  rw [if_neg hcb, if_neg (show ¬ F_X12_isPerson np ex = 0 from p1), if_neg (show ¬ F_X12_isDish nd dx = 0 from p2), if_neg (fun z => p3 (hC.symm.trans z))]
  dsimp only
  rw [h3.2.2, h1.2]
  obtain ⟨h3a, h3b, h3c⟩ := h3
  by_cases c0 : F_X8_wouldBeIll ex.toNatClampNeg dy ae res = 0
  · rw [if_pos c0, if_pos c0, if_neg (by decide)]
    dsimp only
    rw [h3a, h3b]
    exact ⟨rfl, h1.1, tOK_s ht h7, h2.1, UR_m h2.2 (Nat.sub_le _ _)⟩
  · rw [if_neg c0, if_neg c0, if_pos rfl]
    dsimp only
    rw [h3a, h3b]
    exact ⟨rfl, h1.1, tOK_s ht h7, h2.1, UR_m h2.2 (Nat.sub_le _ _)⟩
theorem fast_lite {dy sr il res x55 : Int32} {fu ae hu kd hg ta vt sf st co bi sa gf ga pd ps pi : Nat → Int32} {pf pe ph : Nat → Nat → Int32} {pnx pln n np nd cf ct : Nat} {zh s un : Nat → Int32} (hn : np ≤ 6) (hnd : nd ≤ 5) (h7 : 7 ≤ n) (hpn : pnx < 16) (hpl : pln ≤ 16) (hb : BR np 0 dy sr ae s) (ht : tOK n dy) (hu_ : UR n np pnx pln pd ps pe un) : (F_X11_fast pnx pln dy sr il fu ae hu np hg pd ps pi pf pe ph).2.2.2.2.2.2.2.2.2.2.2 = (F_X12_fast np pln zh s un).2.2.2.2.2 ∧ BR np 0 (F_X11_fast pnx pln dy sr il fu ae hu np hg pd ps pi pf pe ph).2.2.1 sr ae (F_X12_fast np pln zh s un).2.2.2.1 ∧ tOK (n - 7) (F_X11_fast pnx pln dy sr il fu ae hu np hg pd ps pi pf pe ph).2.2.1 ∧ (F_X12_fast np pln zh s un).2.1 = (F_X11_fast pnx pln dy sr il fu ae hu np hg pd ps pi pf pe ph).2.1 ∧ UR (n - 7) np (F_X11_fast pnx pln dy sr il fu ae hu np hg pd ps pi pf pe ph).1 (F_X11_fast pnx pln dy sr il fu ae hu np hg pd ps pi pf pe ph).2.1 (F_X11_fast pnx pln dy sr il fu ae hu np hg pd ps pi pf pe ph).2.2.2.2.2.1 (F_X11_fast pnx pln dy sr il fu ae hu np hg pd ps pi pf pe ph).2.2.2.2.2.2.1 (F_X11_fast pnx pln dy sr il fu ae hu np hg pd ps pi pf pe ph).2.2.2.2.2.2.2.2.2.1 (F_X12_fast np pln zh s un).2.2.2.2.1 := by
  have h2 := UR_keep hn hpn hpl hb ht hu_
  exact ⟨(show dy + 1 = (F_X12_ends np zh s).2 0 by rw [ends_0 hn, hb.1]), BR_ends hn hb, tOK_s ht h7, h2.1, UR_m h2.2 (Nat.sub_le _ _)⟩
theorem BR_fills {np p : Nat} {dy sr v : Int32} {ae s : Nat → Int32} (hp : p < 6) (h : BR np 0 dy sr ae s) : BR np 0 dy sr ae (F_X12_fills p v s) := by
  obtain ⟨h0, h1, h2⟩ := h
  unfold F_X12_fills
  exact ⟨(pk_un (by omega)).trans h0, (pk_un (by omega)).trans h1, fun q hq => ⟨(pk_un (by omega)).trans (h2 q hq).1, (h2 q hq).2⟩⟩
set_option maxHeartbeats 4000000 in
theorem abroad_lite {px dx : Int32} {dy sr il res x55 : Int32} {fu ae hu kd hg ta vt sf st co bi sa gf ga pd ps pi : Nat → Int32} {pf pe ph : Nat → Nat → Int32} {pnx pln n np nd cf ct : Nat} {ho zk zh zt zf ze zb za zo cd kp kb ah ag su sb te tb bn vo s un : Nat → Int32} (hn : np ≤ 6) (hnd : nd ≤ 5) (h7 : 7 ≤ n) (hpn : pnx < 16) (hpl : pln ≤ 16) (hb : BR np 0 dy sr ae s) (ht : tOK n dy) (hu_ : UR n np pnx pln pd ps pe un) : BR np 0 dy sr ae (F_X12_abroad cf ct np nd px dx pln zt zb za cd kp kb ah ag su sb te tb bn vo s un).2.2.2.2.2.2.2.2.2.2.2.2.1 ∧ tOK (n - 7) dy ∧ (F_X12_abroad cf ct np nd px dx pln zt zb za cd kp kb ah ag su sb te tb bn vo s un).2.1 = (F_X11_abroad px dx pnx pln dy sr il fu ae hu np nd ga pd ps pi pf pe ph).2.1 ∧ UR (n - 7) np (F_X11_abroad px dx pnx pln dy sr il fu ae hu np nd ga pd ps pi pf pe ph).1 (F_X11_abroad px dx pnx pln dy sr il fu ae hu np nd ga pd ps pi pf pe ph).2.1 (F_X11_abroad px dx pnx pln dy sr il fu ae hu np nd ga pd ps pi pf pe ph).2.2.2.1 (F_X11_abroad px dx pnx pln dy sr il fu ae hu np nd ga pd ps pi pf pe ph).2.2.2.2.1 (F_X11_abroad px dx pnx pln dy sr il fu ae hu np nd ga pd ps pi pf pe ph).2.2.2.2.2.2.2.1 (F_X12_abroad cf ct np nd px dx pln zt zb za cd kp kb ah ag su sb te tb bn vo s un).2.2.2.2.2.2.2.2.2.2.2.2.2.1 := by
  by_cases p1 : F_X11_isPerson px np = 0
  · have e1 : (F_X11_abroad px dx pnx pln dy sr il fu ae hu np nd ga pd ps pi pf pe ph) = (pnx, pln, fu, pd, ps, pi, pf, pe, ph, (-1)) := if_pos p1
    have e2 : (F_X12_abroad cf ct np nd px dx pln zt zb za cd kp kb ah ag su sb te tb bn vo s un) = (0, pln, kp, kb, ah, ag, su, sb, te, tb, bn, vo, s, un, (-1)) := if_pos p1
    rw [e1, e2]
    exact ⟨hb, tOK_m ht (Nat.sub_le _ _), rfl, UR_m hu_ (Nat.sub_le _ _)⟩
  by_cases p2 : F_X11_isDish dx nd = 0
  · have e1 : (F_X11_abroad px dx pnx pln dy sr il fu ae hu np nd ga pd ps pi pf pe ph) = (pnx, pln, fu, pd, ps, pi, pf, pe, ph, (-1)) := (if_neg p1).trans (if_pos p2)
    have e2 : (F_X12_abroad cf ct np nd px dx pln zt zb za cd kp kb ah ag su sb te tb bn vo s un) = (0, pln, kp, kb, ah, ag, su, sb, te, tb, bn, vo, s, un, (-1)) := (if_neg p1).trans (if_pos p2)
    rw [e1, e2]
    exact ⟨hb, tOK_m ht (Nat.sub_le _ _), rfl, UR_m hu_ (Nat.sub_le _ _)⟩
  have hE := (isPe_of p1 hn).2
  have h2 := UR_keep hn hpn hpl hb ht hu_
  unfold F_X11_abroad F_X12_abroad
  rw [if_neg p1, if_neg p2, if_neg (show ¬ F_X12_isPerson np px = 0 from p1), if_neg (show ¬ F_X12_isDish nd dx = 0 from p2)]
  exact ⟨BR_fills (by omega) hb, tOK_m ht (Nat.sub_le _ _), h2.1, UR_m h2.2 (Nat.sub_le _ _)⟩
/-- the marks alike -/
def MR (n np : Nat) (ml md ms : Nat → Int32) (me : Nat → Nat → Int32) (il mk : Nat → Int32) : Prop := ∀ q, q < 4 → il q = ml q ∧ (ml q = 0 ∨ (BR np (21 * q) (md q) (ms q) (me q) mk ∧ tOK n (md q)))
theorem MR_m {n n' np : Nat} {ml md ms : Nat → Int32} {me : Nat → Nat → Int32} {il mk : Nat → Int32} (h : MR n np ml md ms me il mk) (hn : n' ≤ n) : MR n' np ml md ms me il mk := fun q hq => ⟨(h q hq).1, (h q hq).2.imp id (fun z => ⟨z.1, tOK_m z.2 hn⟩)⟩
theorem within4 {q : Nat} (hq : q < 4) : ¬ F_X12_within_f (nI q) 0 3 = 0 := by
  rcases (show q = 0 ∨ q = 1 ∨ q = 2 ∨ q = 3 by omega) with c | c | c | c <;> subst c <;> decide
theorem cl4 {q : Nat} (hq : q < 4) : (nI q).toNatClampNeg = q := by
  rcases (show q = 0 ∨ q = 1 ∨ q = 2 ∨ q = 3 by omega) with c | c | c | c <;> subst c <;> decide
set_option maxHeartbeats 4000000 in
theorem mark_lite {q n np pln pnx wl : Nat} {mz bk dy sr : Int32} {fu ae wh ww wd to to2 li lw lo ld ls s un mk il ml md ms pd ps : Nat → Int32} {mwl : Nat → Nat} {mf me mwh mww mwd mt pe : Nat → Nat → Int32} (hq : q < 4) (hz : mz = nI q) (hn : np ≤ 6) (hb : BR np 0 dy sr ae s) (ht : tOK n dy) (hu_ : UR n np pnx pln pd ps pe un) (hm : MR n np ml md ms me il mk) (h01 : ∀ j, j < 4 → ¬ ml j = 0 → ml j = 1) : (F_X11_markN q bk pln dy sr fu ae wl wh ww wd to ml md ms mf me mwl mwh mww mwd mt).2.2.2.2.2.2.2.2.2.2.2.2.2.2.2.2.2.2.2.2 = (F_X12_mark mz bk pln li lw lo ld ls to2 s mk il).2.2.2.2.2.2.2.2.2.2.2 ∧ BR np 0 (F_X11_markN q bk pln dy sr fu ae wl wh ww wd to ml md ms mf me mwl mwh mww mwd mt).2.1 (F_X11_markN q bk pln dy sr fu ae wl wh ww wd to ml md ms mf me mwl mwh mww mwd mt).2.2.1 (F_X11_markN q bk pln dy sr fu ae wl wh ww wd to ml md ms mf me mwl mwh mww mwd mt).2.2.2.2.1 (F_X12_mark mz bk pln li lw lo ld ls to2 s mk il).2.2.2.2.2.2.2.2.1 ∧ tOK (n - 7) (F_X11_markN q bk pln dy sr fu ae wl wh ww wd to ml md ms mf me mwl mwh mww mwd mt).2.1 ∧ (F_X12_mark mz bk pln li lw lo ld ls to2 s mk il).2.1 = (F_X11_markN q bk pln dy sr fu ae wl wh ww wd to ml md ms mf me mwl mwh mww mwd mt).1 ∧ UR (n - 7) np pnx (F_X11_markN q bk pln dy sr fu ae wl wh ww wd to ml md ms mf me mwl mwh mww mwd mt).1 pd ps pe un ∧ MR (n - 7) np (F_X11_markN q bk pln dy sr fu ae wl wh ww wd to ml md ms mf me mwl mwh mww mwd mt).2.2.2.2.2.2.2.2.2.2.1 (F_X11_markN q bk pln dy sr fu ae wl wh ww wd to ml md ms mf me mwl mwh mww mwd mt).2.2.2.2.2.2.2.2.2.2.2.1 (F_X11_markN q bk pln dy sr fu ae wl wh ww wd to ml md ms mf me mwl mwh mww mwd mt).2.2.2.2.2.2.2.2.2.2.2.2.1 (F_X11_markN q bk pln dy sr fu ae wl wh ww wd to ml md ms mf me mwl mwh mww mwd mt).2.2.2.2.2.2.2.2.2.2.2.2.2.2.1 (F_X12_mark mz bk pln li lw lo ld ls to2 s mk il).2.2.2.2.2.2.2.2.2.2.1 (F_X12_mark mz bk pln li lw lo ld ls to2 s mk il).2.2.2.2.2.2.2.2.2.1 := by
  subst hz
  have w0 := within4 hq
  have U : ∀ {α : Type} (f : Nat → α) (x : α), upN f q x q = x := fun f x => if_pos rfl
  have V : ∀ {α : Type} (f : Nat → α) (x : α) (j : Nat), ¬ j = q → upN f q x j = f j := fun f x j hj => if_neg hj
  unfold F_X11_markN F_X12_mark
  rw [if_neg w0, cl4 hq]
  by_cases c0 : bk = 0
  · rw [if_pos c0, if_pos c0]
    refine ⟨rfl, hb, tOK_m ht (Nat.sub_le _ _), rfl, UR_m hu_ (Nat.sub_le _ _), fun j hj => ?_⟩
    show upd il q (vp_nar .boolean 1) j = upN ml q 1 j ∧ (upN ml q 1 j = 0 ∨ (BR np (21 * j) (upN md q dy j) (upN ms q sr j) (upN me q (va_cpy ae (me q) 0 0 6) j) (F_X12_copies 0 (21 * q) s mk) ∧ tOK (n - 7) (upN md q dy j)))
    by_cases e : j = q
    · subst e
      rw [pk_us, U, U, U, U]
      exact ⟨by decide, Or.inr ⟨BR_cpy hn (BR_cp hn hb), tOK_m ht (Nat.sub_le _ _)⟩⟩
    · rw [pk_un e, V _ _ _ e, V _ _ _ e, V _ _ _ e, V _ _ _ e]
      exact ⟨(hm j hj).1, (hm j hj).2.imp id (fun z => ⟨BR_out hn (by omega) z.1, tOK_m z.2 (Nat.sub_le _ _)⟩)⟩
  · rw [if_neg c0, if_neg c0, (hm q hq).1]
    by_cases c1 : ml q = 0
    · rw [if_pos c1, if_pos c1]
      exact ⟨rfl, hb, tOK_m ht (Nat.sub_le _ _), rfl, UR_m hu_ (Nat.sub_le _ _), MR_m hm (Nat.sub_le _ _)⟩
    · rw [if_neg c1, if_neg c1]
      obtain ⟨h1, h2⟩ := (hm q hq).2.resolve_left c1
      refine ⟨rfl, BR_cpy hn (BR_cp hn h1), tOK_m h2 (Nat.sub_le _ _), rfl, UR_0, fun j hj => ?_⟩
      show upd il q (vp_nar .boolean 1) j = ml j ∧ _
      by_cases e : j = q
      · subst e
        rw [pk_us]
        exact ⟨(show vp_nar .boolean 1 = (1 : Int32) by decide).trans (h01 j hj c1).symm, (hm j hj).2.imp id (fun z => ⟨z.1, tOK_m z.2 (Nat.sub_le _ _)⟩)⟩
      · rw [pk_un e]
        exact ⟨(hm j hj).1, (hm j hj).2.imp id (fun z => ⟨z.1, tOK_m z.2 (Nat.sub_le _ _)⟩)⟩
theorem undo_lite {dy sr il res x55 : Int32} {fu ae hu kd hg ta vt sf st co bi sa gf ga pd ps pi : Nat → Int32} {pf pe ph : Nat → Nat → Int32} {pnx pln n np nd cf ct : Nat} {s un : Nat → Int32} (hn : np ≤ 6) (h7 : 7 ≤ n) (hpn : pnx < 16) (hpl : pln ≤ 16) (hb : BR np 0 dy sr ae s) (ht : tOK n dy) (hu_ : UR n np pnx pln pd ps pe un) : (F_X11_undo pnx pln dy sr il fu ae hu pd ps pi pf pe ph).2.2.2.2.2.2.2.2 = (F_X12_undo pln s un).2.2.2 ∧ BR np 0 (F_X11_undo pnx pln dy sr il fu ae hu pd ps pi pf pe ph).2.2.1 (F_X11_undo pnx pln dy sr il fu ae hu pd ps pi pf pe ph).2.2.2.1 (F_X11_undo pnx pln dy sr il fu ae hu pd ps pi pf pe ph).2.2.2.2.2.2.1 (F_X12_undo pln s un).2.2.1 ∧ tOK (n - 7) (F_X11_undo pnx pln dy sr il fu ae hu pd ps pi pf pe ph).2.2.1 ∧ (F_X12_undo pln s un).2.1 = (F_X11_undo pnx pln dy sr il fu ae hu pd ps pi pf pe ph).2.1 ∧ UR (n - 7) np (F_X11_undo pnx pln dy sr il fu ae hu pd ps pi pf pe ph).1 (F_X11_undo pnx pln dy sr il fu ae hu pd ps pi pf pe ph).2.1 pd ps pe un := by
  by_cases c0 : nI pln = 0
  · have e1 : (F_X11_undo pnx pln dy sr il fu ae hu pd ps pi pf pe ph) = (pnx, pln, dy, sr, il, fu, ae, hu, 0) := if_pos c0
    have e2 : (F_X12_undo pln s un) = (0, pln, s, 0) := if_pos c0
    rw [e1, e2]
    exact ⟨rfl, hb, tOK_m ht (Nat.sub_le _ _), rfl, UR_m hu_ (Nat.sub_le _ _)⟩
  · have e1 : (F_X11_undo pnx pln dy sr il fu ae hu pd ps pi pf pe ph) = ((pnx + 15) % 16, pln - 1, pd ((pnx + 15) % 16), ps ((pnx + 15) % 16), pi ((pnx + 15) % 16), va_cpy (pf ((pnx + 15) % 16)) fu 0 0 6, va_cpy (pe ((pnx + 15) % 16)) ae 0 0 6, va_cpy (ph ((pnx + 15) % 16)) hu 0 0 6, 1) := if_neg c0
    have e2 : (F_X12_undo pln s un) = (0, pln - 1, F_X12_copies (21 * (pln - 1)) 0 un s, 1) := if_neg c0
    have hp0 : 0 < pln := ex_ne0 c0
    obtain ⟨h1, h2⟩ := hu_ 0 hp0
    have r0 : ringJ pnx 0 = (pnx + 15) % 16 := rfl
    rw [r0] at h1 h2
    rw [show pln - 1 - 0 = pln - 1 by omega] at h1
    rw [e1, e2]
    refine ⟨rfl, BR_cpy hn (BR_cp hn h1), tOK_m h2 (Nat.sub_le _ _), rfl, fun k hk => ?_⟩
    have hk2 : k < pln - 1 := hk
    have h3 := hu_ (k + 1) (by omega)
    show BR np (21 * (pln - 1 - 1 - k)) _ _ _ un ∧ _
    rw [ring_u hpn (by omega), show pln - 1 - 1 - k = pln - 1 - (k + 1) by omega]
    exact ⟨h3.1, tOK_m h3.2 (Nat.sub_le _ _)⟩
theorem tell_eq {px fz : Int32} {np : Nat} {to to2 : Nat → Int32} : (F_X11_tell px fz np to).2 = (F_X12_tell np px fz to2).2.2 := by
  unfold F_X11_tell F_X12_tell F_X12_within_f
  by_cases p1 : F_X11_isPerson px np = 0
  · rw [if_pos p1, if_pos (show F_X12_isPerson np px = 0 from p1)]
  rw [if_neg p1, if_neg (show ¬ F_X12_isPerson np px = 0 from p1)]
  by_cases c1 : fz < 0
  · rw [if_pos c1, if_pos c1, if_pos rfl]
  rw [if_neg c1, if_neg c1]
  by_cases c2 : fz ≤ 99
  · rw [if_pos c2, if_neg (Int32.not_lt.mpr c2), if_neg (by decide)]
  · rw [if_neg c2, if_pos (Int32.not_le.mp c2), if_pos rfl]
theorem dish_eq {dx wt : Int32} {nd : Nat} {bi sa co zb za zo : Nat → Int32} (hnd : nd ≤ 5) (h : dR nd bi sa co zb za zo) : F_X11_dish dx wt nd bi sa co = (F_X12_dish nd dx wt zb za zo).2 := by
  unfold F_X11_dish F_X12_dish F_X12_within_f
  by_cases p1 : F_X11_isDish dx nd = 0
  · rw [if_pos p1, if_pos (show F_X12_isDish nd dx = 0 from p1)]
  rw [if_neg p1, if_neg (show ¬ F_X12_isDish nd dx = 0 from p1)]
  obtain ⟨e1, e2, e3⟩ := h dx.toNatClampNeg (isDi_of p1 hnd).2
  by_cases c0 : wt = 0
  · subst c0
    exact e1.symm
  by_cases c1 : wt = 1
  · subst c1
    exact e2.symm
  by_cases c2 : wt = 2
  · subst c2
    exact e3.symm
  rw [if_neg c0, if_neg c1, if_neg c2]
  by_cases d1 : wt < 0
  · rw [if_pos d1, if_pos rfl]
  · rw [if_neg d1]
    have h2 : 2 < wt := by
      refine Decidable.byContradiction fun z => ?_
      have h3 := nI_ofle (n := 2) d1 (by decide) z
      rcases (show wt.toNatClampNeg = 0 ∨ wt.toNatClampNeg = 1 ∨ wt.toNatClampNeg = 2 by omega) with q | q | q
      · exact c0 (by rw [nI_ofc d1, q]; rfl)
      · exact c1 (by rw [nI_ofc d1, q]; rfl)
      · exact c2 (by rw [nI_ofc d1, q]; rfl)
    rw [if_pos h2, if_pos rfl]
theorem bit01 (x : Int32) : x &&& 1 = 0 ∨ x &&& 1 = 1 := by
  obtain ⟨j, hj, e⟩ := vp_in_of (pk_andIn (m := 1) x 1 (by decide) (by decide)) (by decide)
  rcases (show j = 0 ∨ j = 1 by omega) with q | q
  · exact Or.inl (by rw [e, q]; rfl)
  · exact Or.inr (by rw [e, q]; rfl)
theorem votes_eq {k np : Nat} {vo zv : Nat → Int32} (h : ∀ q, q < np → zv q = vo q) : ∀ (m j : Nat) (a : Int32), j + m ≤ np → F_X0_votesOf_L4 (nI k) vo m j a = F_X12_power_L63 zv k m j a
  | 0, _, _, _ => rfl
  | m + 1, j, a, hj => by
    rw [F_X0_votesOf_L4_s, F_X12_power_L63_s, h j (by omega)]
    rcases bit01 (nI k >>> (nI j &&& 31)) with c | c
    · rw [c, if_neg (by decide), Int32.zero_mul]
      exact votes_eq h m (j + 1) _ (by omega)
    · rw [c, if_pos rfl, Int32.one_mul]
      exact votes_eq h m (j + 1) _ (by omega)
theorem pow_eq {px qz : Int32} {np : Nat} {vo zv : Nat → Int32} (h : ∀ q, q < np → zv q = vo q) (hx : px.toNatClampNeg < np) : ∀ (m k : Nat) (a : Int32), F_X11_power_L26 px qz np vo m k a = F_X12_power_L31 np px qz zv m k a
  | 0, _, _ => rfl
  | m + 1, k, a => by
    rw [F_X11_power_L26_s, F_X12_power_L31_s, h _ hx]
    have hv : F_X0_votesOf (nI k) np vo = F_X12_power_L63 zv k (np - 0) 0 0 := votes_eq h (np - 0) 0 0 (by omega)
    rw [hv]
    dsimp only
    rw [Int32.add_zero]
    rcases bit01 (nI k >>> (nI px.toNatClampNeg &&& 31)) with c | c
    · rw [c, if_pos rfl, if_neg (show ¬ (0 : Int32) = 1 by decide)]
      by_cases q1 : qz ≤ F_X12_power_L63 zv k (np - 0) 0 0
      · rw [if_pos q1, if_pos q1]
        exact pow_eq h hx m (k + 1) _
      · rw [if_neg q1, if_neg q1]
        by_cases q2 : F_X12_power_L63 zv k (np - 0) 0 0 + vo px.toNatClampNeg < qz
        · rw [if_pos q2, if_pos q2]
          exact pow_eq h hx m (k + 1) _
        · rw [if_neg q2, if_neg q2]
          exact pow_eq h hx m (k + 1) _
    · rw [c, if_neg (show ¬ (1 : Int32) = 0 by decide), if_pos rfl]
      exact pow_eq h hx m (k + 1) _
theorem power_eq {px qz : Int32} {np : Nat} {vo zv : Nat → Int32} (hn : np ≤ 6) (h : ∀ q, q < np → zv q = vo q) : F_X11_power px qz np vo = (F_X12_power np px qz zv).2 := by
  unfold F_X11_power F_X12_power F_X12_within_f
  by_cases p1 : F_X11_isPerson px np = 0
  · rw [if_pos p1, if_pos (show F_X12_isPerson np px = 0 from p1)]
  rw [if_neg p1, if_neg (show ¬ F_X12_isPerson np px = 0 from p1)]
  by_cases c1 : qz < 0
  · rw [if_pos c1, if_pos c1, if_pos rfl]
  rw [if_neg c1, if_neg c1]
  by_cases c2 : qz ≤ 999
  · rw [if_pos c2, if_neg (Int32.not_lt.mpr c2), if_neg (by decide)]
    show F_X11_power_L26 px qz np vo (F_X0_everybody np + 1 - 0) 0 0 = F_X12_power_L31 np px qz zv (2 ^ np - 0) 0 0
    have e : F_X0_everybody np + 1 - 0 = 2 ^ np - 0 := by
      show 2 ^ np - 1 + 1 - 0 = 2 ^ np - 0
      have := Nat.one_le_two_pow (n := np)
      omega
    rw [e]
    exact pow_eq h (isPe_of p1 hn).2 _ _ _
  · rw [if_neg c2, if_pos (Int32.not_le.mp c2), if_pos rfl]
