/-! THE LAW, call by call -/
set_option maxHeartbeats 4000000 in
set_option maxRecDepth 100000 in
theorem lw_case20 (l : Launch) (hfl : l.stackTraces = false) {p : Program} {e : Env} {s : State} {m : MethodId} {below : List Frame} {meth : Method} {c : Code} {b L : Nat} {xs : Nat → Int32} {G : mq_G} {A : Nat → Prop} {Q : State → Prop} (hC0 : lw_C p s m meth c b L xs G A) {f : mq_F} {ad : AD} {S : AT} {X : CX} {Y : MX} {O : OX} {T : Nat} (hR : WR G f ad S X S Y O) (hO : cOK S X T) (hC : mCp S Y) (hT5 : T < 512) (hTL : 6 * T + 6 ≤ L) (K : lw_K p l e s m below meth c b G A Q T) {H : Heap} {locs : List Loc} (hM : mq_W G.1 A f H) (hS : va_S A s.heap H locs) {ls : Array Slot} (hl : lv_has ls 9 [(0, .ref b), (1, .ref (ad 0 0 0)), (2, .ref (ad 20 0 0)), (3, .ref (ad 38 0 0)), (4, .ref (ad 39 0 0)), (5, .int (nI (6 * T)))]) : W p l e room_1 s m #[Value.ref b] below meth c H locs (100 + 1177 * T) (20000 + 14000 * T) Q (F0 m 1547 ls []) := by
  obtain ⟨hx, hb, hml, hown, hts, hK, hZ, hA, hN, hX, hbl, hbA, hL⟩ := hC0
  have y0 := hR.1 _ _ _ _ t0
  refine lv_aload_n hx hb dL_law_1547 rfl (lv_at hl 1 rfl) ?_
  refine lv_aload_n hx hb dL_law_1548 rfl (lv_at hl 0 rfl) ?_
  refine lv_iload hx hb dL_law_1549 (lv_at hl 5 rfl) ?_
  refine lv_iconst (v := 1) hx hb dL_law_1551 (by decide) ?_
  refine lv_iadd hx hb dL_law_1552 ?_
  rw [show (nI (6 * T)) + 1 = nI ((6 * T) + 1) from nI_add _ _]
  refine va_sld hx hb hX hbl hbA hS (vp_in_nI (by omega) (by omega)) dL_law_1553 ?_
  rw [show (nI ((6 * T) + 1) : Int32).toNatClampNeg = (6 * T) + 1 from nI_clamp (by omega)]
  refine lv_aload_n hx hb dL_law_1554 rfl (lv_at hl 3 rfl) ?_
  refine mq_calli (vx_runSW (As := [.ref (ad 0 0 0), .int (xs ((6 * T) + 1)), .ref (ad 38 0 0)]) (rest := []) ⟨hx, hb, hml, hown, hts⟩ (c_L_faults l hfl G A f ad S X S Y O T (xs (6 * T + 1))) (vx_cwSW 3 hts gL_law_L_faults rfl rfl rfl (by decide +kernel) ⟨Nat.le_of_ble_eq_true rfl, Nat.le_of_ble_eq_true rfl⟩) (lq_preS hK hZ hS hA hM hN (⟨hR, hO, hT5⟩) _) rfl rfl hl.1 rfl (lv_room (Nat.le_of_ble_eq_true rfl)) dL_law_1555 ⟨by show (100 + 1177 * T) + 2 ≤ 603072; omega, by show (20000 + 14000 * T) + 12 ≤ 7194729; omega⟩) hS (fun r1555 g1555 H locs p1555 hM hS => ?_)
  refine W.widen (k := (100 + 1177 * T + 2)) (n := (20000 + 14000 * T + 12)) (by omega) (by omega) ?_
  obtain ⟨c9, v9, O9, e9, rfl, hc9, hv9, hR9⟩ := p1555
  have y20 := hR9.1 20 0 0 _ t20
  have hO9 := ok_mono hO hT5
  refine lv_istore (lv' := [(6, .int (nI c9)), (0, .ref b), (1, .ref (ad 0 0 0)), (2, .ref (ad 20 0 0)), (3, .ref (ad 38 0 0)), (4, .ref (ad 39 0 0)), (5, .int (nI (6 * T)))]) hx hb dL_law_1558 hl (by decide) rfl (fun ls hl => ?_)
  refine lv_aload_n hx hb dL_law_1560 rfl (lv_at hl 3 rfl) ?_
  refine lv_aload_n hx hb dL_law_1561 rfl (lv_at hl 1 rfl) ?_
  refine lv_iload hx hb dL_law_1562 (lv_at hl 6 rfl) ?_
  refine lv_iconst (v := 1) hx hb dL_law_1564 (by decide) ?_
  refine lv_iadd hx hb dL_law_1565 ?_
  rw [show (nI (6 * T)) + 1 = nI ((6 * T) + 1) from nI_add _ _]
  refine va_sld hx hb hX hbl hbA hS (vp_in_nI (by omega) (by omega)) dL_law_1566 ?_
  rw [show (nI ((6 * T) + 1) : Int32).toNatClampNeg = (6 * T) + 1 from nI_clamp (by omega)]
  refine mq_calli (va_runV (As := [.int (xs ((6 * T) + 1))]) (rest := []) ⟨hx, hb, hml, hown, hts⟩ (c_X11_faults l G A g1555 ad S X S Y O9 T (xs (6 * T + 1))) (cwV 1 hts gL_law_X11_faults rfl rfl rfl (by decide +kernel) ⟨Nat.le_of_ble_eq_true rfl, Nat.le_of_ble_eq_true rfl⟩) (mq_preV hK hZ hS hA hM (q := (RX11, TX11, 4)) y20 rfl (⟨hR9, ⟨⟨X, hO⟩, hC⟩⟩) _) rfl rfl hl.1 rfl (lv_room (Nat.le_of_ble_eq_true rfl)) dL_law_1567 ⟨by show (100 + 1177 * T + 2) + 0 ≤ 603072; omega, by show (20000 + 14000 * T + 12) + 0 ≤ 7194729; omega⟩) hS (fun r1567 g1567 H locs p1567 hM hS => ?_)
  refine W.widen (k := (100 + 1177 * T + 2)) (n := (20000 + 14000 * T + 12)) (by omega) (by omega) ?_
  obtain ⟨c8, e8, hR8⟩ := p1567
  obtain ⟨rfl, rfl⟩ := Prod.mk.inj (e9.symm.trans e8)
  have y20b := hR8.1 20 0 0 _ t20
  refine lv_istore (lv' := [(7, .int v9), (6, .int (nI c9)), (0, .ref b), (1, .ref (ad 0 0 0)), (2, .ref (ad 20 0 0)), (3, .ref (ad 38 0 0)), (4, .ref (ad 39 0 0)), (5, .int (nI (6 * T)))]) hx hb dL_law_1570 hl (by decide) rfl (fun ls hl => ?_)
  refine lv_aload_n hx hb dL_law_1572 rfl (lv_at hl 4 rfl) ?_
  refine mq_calli (va_runV (As := []) (rest := []) ⟨hx, hb, hml, hown, hts⟩ (c_X11_thrown l G A g1567 (ad 20 0 0) (yT (yThr Y (nI c9))) (nI (aD S)) (ad 21 0 0) (ad 23 0 0)) (cwV 0 hts gL_law_X11_thrown rfl rfl rfl (by decide +kernel) ⟨Nat.le_of_ble_eq_true rfl, Nat.le_of_ble_eq_true rfl⟩) (mq_preV hK hZ hS hA hM (q := (RX11, TX11, 4)) y20b rfl (y20b) _) rfl rfl hl.1 rfl (lv_room (Nat.le_of_ble_eq_true rfl)) dL_law_1573 ⟨by show (100 + 1177 * T + 2) + 0 ≤ 603072; omega, by show (20000 + 14000 * T + 12) + 0 ≤ 7194729; omega⟩) hS (fun r1573 g1573 H locs p1573 hM hS => ?_)
  refine W.widen (k := (100 + 1177 * T + 2)) (n := (20000 + 14000 * T + 12)) (by omega) (by omega) ?_
  obtain ⟨rfl, hr3⟩ := p1573
  have hr3 : r1573 = nI c9 := hr3
  subst hr3
  refine lv_iload hx hb dL_law_1576 (lv_at hl 1 rfl) ?_
  refine lv_icmp_eq (tgt := 1583) hx hb dL_law_1578 (by decide) (fun c_1578 => ?_) (fun c_1578 => (by exact absurd rfl c_1578))
  refine lv_iload hx hb dL_law_1583 (lv_at hl 1 rfl) ?_
  refine lv_if_ne (tgt := 1600) hx hb dL_law_1585 (by decide) (fun c_1585 => ?_) (fun c_1585 => ?_)
  · replace c_1585 : ¬ nI c9 = nI 0 := c_1585
    rw [nI_eq (by omega) (by omega)] at c_1585
    refine lv_goto (tgt := 1773) hx hb dL_law_1600 (by decide) ?_
    exact W.widen (by omega) (by omega) (K _ _ _ _ _ _ (hR8) (hO9) (hC) _ _ hM hS _ (lv_sub hl [2, 3, 4, 5, 6, 7] rfl))
  · replace c_1585 : nI c9 = nI 0 := c_1585
    rw [nI_eq (by omega) (by omega)] at c_1585
    have y38 := hR8.1 38 0 0 _ t38
    refine lv_aload_n hx hb dL_law_1588 rfl (lv_at hl 5 rfl) ?_
    refine lv_iconst (v := 0) hx hb dL_law_1589 (by decide) ?_
    refine mq_lald hx hb hK hM y38 (vp_in_nI (n := 0) (by decide) (by decide)) dL_law_1590 ?_
    rw [show (0 : Int32).toNatClampNeg = 0 from rfl]
    rw [show O9.1 0 = v9.toInt64 from hv9 c_1585]
    refine lv_iload hx hb dL_law_1591 (lv_at hl 0 rfl) ?_
    refine lv_i2l hx hb dL_law_1593 rfl ?_
    refine W.lcmp hx hb dL_law_1594 ?_
    refine lv_if_eq (tgt := 1600) hx hb dL_law_1595 (by decide) (fun c_1595 => ?_) (fun c_1595 => (by exact absurd ((lg_cmp_eq _ _).mpr rfl) c_1595))
    refine lv_goto (tgt := 1773) hx hb dL_law_1600 (by decide) ?_
    exact W.widen (by omega) (by omega) (K _ _ _ _ _ _ (hR8) (hO9) (hC) _ _ hM hS _ (lv_sub hl [2, 3, 4, 5, 6, 7] rfl))

set_option maxHeartbeats 4000000 in
set_option maxRecDepth 100000 in
theorem lw_case21 (l : Launch) (hfl : l.stackTraces = false) {p : Program} {e : Env} {s : State} {m : MethodId} {below : List Frame} {meth : Method} {c : Code} {b L : Nat} {xs : Nat → Int32} {G : mq_G} {A : Nat → Prop} {Q : State → Prop} (hC0 : lw_C p s m meth c b L xs G A) {f : mq_F} {ad : AD} {S : AT} {X : CX} {Y : MX} {O : OX} {T : Nat} (hR : WR G f ad S X S Y O) (hO : cOK S X T) (hC : mCp S Y) (hT5 : T < 512) (hTL : 6 * T + 6 ≤ L) (K : lw_K p l e s m below meth c b G A Q T) {H : Heap} {locs : List Loc} (hM : mq_W G.1 A f H) (hS : va_S A s.heap H locs) {ls : Array Slot} (hl : lv_has ls 9 [(0, .ref b), (1, .ref (ad 0 0 0)), (2, .ref (ad 20 0 0)), (3, .ref (ad 38 0 0)), (4, .ref (ad 39 0 0)), (5, .int (nI (6 * T)))]) : W p l e room_1 s m #[Value.ref b] below meth c H locs (100 + 1177 * T) (20000 + 14000 * T) Q (F0 m 1603 ls []) := by
  obtain ⟨hx, hb, hml, hown, hts, hK, hZ, hA, hN, hX, hbl, hbA, hL⟩ := hC0
  have y0 := hR.1 _ _ _ _ t0
  refine lv_aload_n hx hb dL_law_1603 rfl (lv_at hl 1 rfl) ?_
  refine mq_calll (va_runV (As := []) (rest := []) ⟨hx, hb, hml, hown, hts⟩ (c_X7_checksum l G A f ad S X S Y O T) (cwV 0 hts gL_law_X7_checksum rfl rfl rfl (by decide +kernel) ⟨Nat.le_of_ble_eq_true rfl, Nat.le_of_ble_eq_true rfl⟩) (mq_preV hK hZ hS hA hM (q := (RX7, TX7, 6)) y0 rfl (⟨hR, hO⟩) _) rfl rfl hl.1 rfl (lv_room (Nat.le_of_ble_eq_true rfl)) dL_law_1604 ⟨by show (100 + 1177 * T) + 0 ≤ 603072; omega, by show (20000 + 14000 * T) + 0 ≤ 7194729; omega⟩) hS (fun r1604 g1604 H locs p1604 hM hS => ?_)
  refine W.widen (k := (100 + 1177 * T)) (n := (20000 + 14000 * T)) (by omega) (by omega) ?_
  obtain ⟨rfl, hr1⟩ := p1604
  have y20 := hR.1 20 0 0 _ t20
  refine lv_aload_n hx hb dL_law_1607 rfl (lv_at hl 2 rfl) ?_
  refine mq_calll (va_runV (As := []) (rest := [.long r1604]) ⟨hx, hb, hml, hown, hts⟩ (c_X11_checksum l G A f ad S X S Y O T) (cwV 0 hts gL_law_X11_checksum rfl rfl rfl (by decide +kernel) ⟨Nat.le_of_ble_eq_true rfl, Nat.le_of_ble_eq_true rfl⟩) (mq_preV hK hZ hS hA hM (q := (RX11, TX11, 4)) y20 rfl (⟨hR, ⟨⟨X, hO⟩, hC⟩⟩) _) rfl rfl hl.1 rfl (lv_room (Nat.le_of_ble_eq_true rfl)) dL_law_1608 ⟨by show (100 + 1177 * T) + 1 ≤ 603072; omega, by show (20000 + 14000 * T) + 4 ≤ 7194729; omega⟩) hS (fun r1608 g1608 H locs p1608 hM hS => ?_)
  refine W.widen (k := (100 + 1177 * T + 1)) (n := (20000 + 14000 * T + 4)) (by omega) (by omega) ?_
  obtain ⟨hr2, hR8⟩ := p1608
  refine W.lcmp hx hb dL_law_1611 ?_
  refine lv_if_eq (tgt := 1773) hx hb dL_law_1612 (by decide) (fun c_1612 => ?_) (fun c_1612 => (by exact absurd ((lg_cmp_eq _ _).mpr (hr1.trans hr2.symm)) c_1612))
  exact W.widen (by omega) (by omega) (K _ _ _ _ _ _ (hR8) (ok_mono hO hT5) (hC) _ _ hM hS _ (lv_sub hl [0, 1, 2, 3, 4, 5] rfl))

set_option maxHeartbeats 4000000 in
set_option maxRecDepth 100000 in
theorem lw_case22 (l : Launch) (hfl : l.stackTraces = false) {p : Program} {e : Env} {s : State} {m : MethodId} {below : List Frame} {meth : Method} {c : Code} {b L : Nat} {xs : Nat → Int32} {G : mq_G} {A : Nat → Prop} {Q : State → Prop} (hC0 : lw_C p s m meth c b L xs G A) {f : mq_F} {ad : AD} {S : AT} {X : CX} {Y : MX} {O : OX} {T : Nat} (hR : WR G f ad S X S Y O) (hO : cOK S X T) (hC : mCp S Y) (hT5 : T < 512) (hTL : 6 * T + 6 ≤ L) (K : lw_K p l e s m below meth c b G A Q T) {H : Heap} {locs : List Loc} (hM : mq_W G.1 A f H) (hS : va_S A s.heap H locs) {ls : Array Slot} (hl : lv_has ls 9 [(0, .ref b), (1, .ref (ad 0 0 0)), (2, .ref (ad 20 0 0)), (3, .ref (ad 38 0 0)), (4, .ref (ad 39 0 0)), (5, .int (nI (6 * T)))]) : W p l e room_1 s m #[Value.ref b] below meth c H locs (100 + 1177 * T) (20000 + 14000 * T) Q (F0 m 1617 ls []) := by
  obtain ⟨hx, hb, hml, hown, hts, hK, hZ, hA, hN, hX, hbl, hbA, hL⟩ := hC0
  have y0 := hR.1 _ _ _ _ t0
  refine lv_aload_n hx hb dL_law_1617 rfl (lv_at hl 1 rfl) ?_
  refine lv_aload hx hb dL_law_1618 (lv_at hl 4 rfl) ?_
  refine mq_calli (vx_runSW (As := [.ref (ad 0 0 0), .ref (ad 39 0 0)]) (rest := []) ⟨hx, hb, hml, hown, hts⟩ (c_L_knownShare l hfl G A f ad S X S Y O T) (vx_cwSW 2 hts gL_law_L_knownShare rfl rfl rfl (by decide +kernel) ⟨Nat.le_of_ble_eq_true rfl, Nat.le_of_ble_eq_true rfl⟩) (lq_preS hK hZ hS hA hM hN (⟨hR, hO, hT5⟩) _) rfl rfl hl.1 rfl (lv_room (Nat.le_of_ble_eq_true rfl)) dL_law_1620 ⟨by show (100 + 1177 * T) + 1 ≤ 603072; omega, by show (20000 + 14000 * T) + 6 ≤ 7194729; omega⟩) hS (fun r1620 g1620 H locs p1620 hM hS => ?_)
  refine W.widen (k := (100 + 1177 * T + 1)) (n := (20000 + 14000 * T + 6)) (by omega) (by omega) ?_
  obtain ⟨c9, O9, hcs, rfl, hR9⟩ := p1620
  have y20 := hR9.1 20 0 0 _ t20
  have hO9 := ok_mono hO hT5
  have hc9 : c9 = if aL S * aN S = 0 then 1 else 0 := hcs.elim (fun h => by rw [if_neg h.2.1]; exact h.1) (fun h => by rw [if_pos h.2]; exact h.1)
  have hcb : c9 ≤ 1 := by rw [hc9]; split <;> omega
  have hv9 : c9 = 0 → O9.2 0 = FP.f2d (shF S) := fun h => hcs.elim (fun w => w.2.2) (fun w => absurd (h.symm.trans w.1) (by decide))
  refine lv_istore (lv' := [(6, .int (nI c9)), (0, .ref b), (1, .ref (ad 0 0 0)), (2, .ref (ad 20 0 0)), (3, .ref (ad 38 0 0)), (4, .ref (ad 39 0 0)), (5, .int (nI (6 * T)))]) hx hb dL_law_1623 hl (by decide) rfl (fun ls hl => ?_)
  refine lv_aload_n hx hb dL_law_1625 rfl (lv_at hl 3 rfl) ?_
  refine mq_callf (va_runV (As := []) (rest := []) ⟨hx, hb, hml, hown, hts⟩ (c_X11_knownShare l G A g1620 ad S X S Y O9 T) (cwV 0 hts gL_law_X11_knownShare rfl rfl rfl (by decide +kernel) ⟨Nat.le_of_ble_eq_true rfl, Nat.le_of_ble_eq_true rfl⟩) (mq_preV hK hZ hS hA hM (q := (RX11, TX11, 4)) y20 rfl (⟨hR9, ⟨⟨X, hO⟩, hC⟩⟩) _) rfl rfl hl.1 rfl (lv_room (Nat.le_of_ble_eq_true rfl)) dL_law_1626 ⟨by show (100 + 1177 * T + 1) + 1 ≤ 603072; omega, by show (20000 + 14000 * T + 6) + 4 ≤ 7194729; omega⟩) hS (fun r1626 g1626 H locs p1626 hM hS => ?_)
  refine W.widen (k := (100 + 1177 * T + 2)) (n := (20000 + 14000 * T + 10)) (by omega) (by omega) ?_
  obtain ⟨c8, hc8, hv8, hR8⟩ : ∃ c8 : Nat, (c8 = if aL S * aN S = 0 then 1 else 0) ∧ (c8 = 0 → r1626 = shF S) ∧ WR G g1626 ad S X S (yThr Y (nI c8)) O9 := p1626.elim (fun h => ⟨0, (if_neg h.1).symm, fun _ => h.2.1, h.2.2⟩) (fun h => ⟨1, (if_pos h.1).symm, fun h9 => absurd h9 (by decide), h.2⟩)
  obtain rfl : c9 = c8 := hc9.trans hc8.symm
  have y20b := hR8.1 20 0 0 _ t20
  refine lv_fstore (lv' := [(7, .float r1626), (6, .int (nI c9)), (0, .ref b), (1, .ref (ad 0 0 0)), (2, .ref (ad 20 0 0)), (3, .ref (ad 38 0 0)), (4, .ref (ad 39 0 0)), (5, .int (nI (6 * T)))]) hx hb dL_law_1629 hl (by decide) rfl (fun ls hl => ?_)
  refine lv_aload_n hx hb dL_law_1631 rfl (lv_at hl 4 rfl) ?_
  refine mq_calli (va_runV (As := []) (rest := []) ⟨hx, hb, hml, hown, hts⟩ (c_X11_thrown l G A g1626 (ad 20 0 0) (yT (yThr Y (nI c9))) (nI (aD S)) (ad 21 0 0) (ad 23 0 0)) (cwV 0 hts gL_law_X11_thrown rfl rfl rfl (by decide +kernel) ⟨Nat.le_of_ble_eq_true rfl, Nat.le_of_ble_eq_true rfl⟩) (mq_preV hK hZ hS hA hM (q := (RX11, TX11, 4)) y20b rfl (y20b) _) rfl rfl hl.1 rfl (lv_room (Nat.le_of_ble_eq_true rfl)) dL_law_1632 ⟨by show (100 + 1177 * T + 2) + 0 ≤ 603072; omega, by show (20000 + 14000 * T + 10) + 0 ≤ 7194729; omega⟩) hS (fun r1632 g1632 H locs p1632 hM hS => ?_)
  refine W.widen (k := (100 + 1177 * T + 2)) (n := (20000 + 14000 * T + 10)) (by omega) (by omega) ?_
  obtain ⟨rfl, hr3⟩ := p1632
  have hr3 : r1632 = nI c9 := hr3
  subst hr3
  refine lv_iload hx hb dL_law_1635 (lv_at hl 1 rfl) ?_
  refine lv_icmp_eq (tgt := 1642) hx hb dL_law_1637 (by decide) (fun c_1637 => ?_) (fun c_1637 => (by exact absurd rfl c_1637))
  refine lv_iload hx hb dL_law_1642 (lv_at hl 1 rfl) ?_
  refine lv_if_ne (tgt := 1680) hx hb dL_law_1644 (by decide) (fun c_1644 => ?_) (fun c_1644 => ?_)
  · replace c_1644 : ¬ nI c9 = nI 0 := c_1644
    rw [nI_eq (by omega) (by omega)] at c_1644
    refine lv_goto (tgt := 1773) hx hb dL_law_1680 (by decide) ?_
    exact W.widen (by omega) (by omega) (K _ _ _ _ _ _ (hR8) (hO9) (hC) _ _ hM hS _ (lv_sub hl [2, 3, 4, 5, 6, 7] rfl))
  · replace c_1644 : nI c9 = nI 0 := c_1644
    rw [nI_eq (by omega) (by omega)] at c_1644
    have y38 := hR8.1 39 0 0 _ t39
    have hr2 : r1626 = shF S := hv8 c_1644
    subst hr2
    have hne : aL S * aN S ≠ 0 := fun h => by rw [if_pos h] at hc9; omega
    have hsb := shF_b hO hne
    refine lv_aload hx hb dL_law_1647 (lv_at hl 6 rfl) ?_
    refine lv_iconst (v := 0) hx hb dL_law_1649 (by decide) ?_
    refine mq_dald hx hb hK hM y38 (vp_in_nI (n := 0) (by decide) (by decide)) dL_law_1650 ?_
    rw [show (0 : Int32).toNatClampNeg = 0 from rfl]
    rw [show O9.2 0 = FP.f2d (shF S) from hv9 c_1644]
    refine lv_fload hx hb dL_law_1651 (lv_at hl 0 rfl) ?_
    refine lv_f2d hx hb dL_law_1653 (hsb.1) ?_
    refine lv_dcmp hx hb dL_law_1654 ?_
    refine lv_if_eq (tgt := 1680) hx hb dL_law_1655 (by decide) (fun c_1655 => ?_) (fun c_1655 => (by exact absurd hsb.2 c_1655))
    refine lv_goto (tgt := 1773) hx hb dL_law_1680 (by decide) ?_
    exact W.widen (by omega) (by omega) (K _ _ _ _ _ _ (hR8) (hO9) (hC) _ _ hM hS _ (lv_sub hl [2, 3, 4, 5, 6, 7] rfl))

set_option maxHeartbeats 4000000 in
set_option maxRecDepth 100000 in
theorem lw_case23 (l : Launch) (hfl : l.stackTraces = false) {p : Program} {e : Env} {s : State} {m : MethodId} {below : List Frame} {meth : Method} {c : Code} {b L : Nat} {xs : Nat → Int32} {G : mq_G} {A : Nat → Prop} {Q : State → Prop} (hC0 : lw_C p s m meth c b L xs G A) {f : mq_F} {ad : AD} {S : AT} {X : CX} {Y : MX} {O : OX} {T : Nat} (hR : WR G f ad S X S Y O) (hO : cOK S X T) (hC : mCp S Y) (hT5 : T < 512) (hTL : 6 * T + 6 ≤ L) (K : lw_K p l e s m below meth c b G A Q T) {H : Heap} {locs : List Loc} (hM : mq_W G.1 A f H) (hS : va_S A s.heap H locs) {ls : Array Slot} (hl : lv_has ls 9 [(0, .ref b), (1, .ref (ad 0 0 0)), (2, .ref (ad 20 0 0)), (3, .ref (ad 38 0 0)), (4, .ref (ad 39 0 0)), (5, .int (nI (6 * T)))]) : W p l e room_1 s m #[Value.ref b] below meth c H locs (100 + 1177 * T) (20000 + 14000 * T) Q (F0 m 1683 ls []) := by
  obtain ⟨hx, hb, hml, hown, hts, hK, hZ, hA, hN, hX, hbl, hbA, hL⟩ := hC0
  have y0 := hR.1 _ _ _ _ t0
  refine lv_aload_n hx hb dL_law_1683 rfl (lv_at hl 1 rfl) ?_
  refine lv_aload_n hx hb dL_law_1684 rfl (lv_at hl 0 rfl) ?_
  refine lv_iload hx hb dL_law_1685 (lv_at hl 5 rfl) ?_
  refine lv_iconst (v := 1) hx hb dL_law_1687 (by decide) ?_
  refine lv_iadd hx hb dL_law_1688 ?_
  rw [show (nI (6 * T)) + 1 = nI ((6 * T) + 1) from nI_add _ _]
  refine va_sld hx hb hX hbl hbA hS (vp_in_nI (by omega) (by omega)) dL_law_1689 ?_
  rw [show (nI ((6 * T) + 1) : Int32).toNatClampNeg = (6 * T) + 1 from nI_clamp (by omega)]
  refine lv_aload hx hb dL_law_1690 (lv_at hl 4 rfl) ?_
  refine mq_calli (vx_runSW (As := [.ref (ad 0 0 0), .int (xs ((6 * T) + 1)), .ref (ad 39 0 0)]) (rest := []) ⟨hx, hb, hml, hown, hts⟩ (c_L_meanOdds l hfl G A f ad S X S Y O T (xs (6 * T + 1))) (vx_cwSW 3 hts gL_law_L_meanOdds rfl rfl rfl (by decide +kernel) ⟨Nat.le_of_ble_eq_true rfl, Nat.le_of_ble_eq_true rfl⟩) (lq_preS hK hZ hS hA hM hN (⟨hR, hO, hT5⟩) _) rfl rfl hl.1 rfl (lv_room (Nat.le_of_ble_eq_true rfl)) dL_law_1692 ⟨by show (100 + 1177 * T) + 2 ≤ 603072; omega, by show (20000 + 14000 * T) + 12 ≤ 7194729; omega⟩) hS (fun r1692 g1692 H locs p1692 hM hS => ?_)
  refine W.widen (k := (100 + 1177 * T + 2)) (n := (20000 + 14000 * T + 12)) (by omega) (by omega) ?_
  obtain ⟨c9, v9, O9, e9, rfl, hc9, hv9, hR9⟩ := p1692
  have y20 := hR9.1 20 0 0 _ t20
  have hO9 := ok_mono hO hT5
  refine lv_istore (lv' := [(6, .int (nI c9)), (0, .ref b), (1, .ref (ad 0 0 0)), (2, .ref (ad 20 0 0)), (3, .ref (ad 38 0 0)), (4, .ref (ad 39 0 0)), (5, .int (nI (6 * T)))]) hx hb dL_law_1695 hl (by decide) rfl (fun ls hl => ?_)
  refine lv_aload_n hx hb dL_law_1697 rfl (lv_at hl 3 rfl) ?_
  refine lv_aload_n hx hb dL_law_1698 rfl (lv_at hl 1 rfl) ?_
  refine lv_iload hx hb dL_law_1699 (lv_at hl 6 rfl) ?_
  refine lv_iconst (v := 1) hx hb dL_law_1701 (by decide) ?_
  refine lv_iadd hx hb dL_law_1702 ?_
  rw [show (nI (6 * T)) + 1 = nI ((6 * T) + 1) from nI_add _ _]
  refine va_sld hx hb hX hbl hbA hS (vp_in_nI (by omega) (by omega)) dL_law_1703 ?_
  rw [show (nI ((6 * T) + 1) : Int32).toNatClampNeg = (6 * T) + 1 from nI_clamp (by omega)]
  refine mq_calld (va_runV (As := [.int (xs ((6 * T) + 1))]) (rest := []) ⟨hx, hb, hml, hown, hts⟩ (c_X11_meanOdds l G A g1692 ad S X S Y O9 T (xs (6 * T + 1))) (cwV 1 hts gL_law_X11_meanOdds rfl rfl rfl (by decide +kernel) ⟨Nat.le_of_ble_eq_true rfl, Nat.le_of_ble_eq_true rfl⟩) (mq_preV hK hZ hS hA hM (q := (RX11, TX11, 4)) y20 rfl (⟨hR9, ⟨⟨X, hO⟩, hC⟩⟩) _) rfl rfl hl.1 rfl (lv_room (Nat.le_of_ble_eq_true rfl)) dL_law_1704 ⟨by show (100 + 1177 * T + 2) + 1 ≤ 603072; omega, by show (20000 + 14000 * T + 12) + 4 ≤ 7194729; omega⟩) hS (fun r1704 g1704 H locs p1704 hM hS => ?_)
  refine W.widen (k := (100 + 1177 * T + 3)) (n := (20000 + 14000 * T + 16)) (by omega) (by omega) ?_
  obtain ⟨c8, e8, hR8⟩ := p1704
  obtain ⟨rfl, rfl⟩ := Prod.mk.inj (e9.symm.trans e8)
  have y20b := hR8.1 20 0 0 _ t20
  refine lv_dstore (lv' := [(7, .double v9), (6, .int (nI c9)), (0, .ref b), (1, .ref (ad 0 0 0)), (2, .ref (ad 20 0 0)), (3, .ref (ad 38 0 0)), (4, .ref (ad 39 0 0)), (5, .int (nI (6 * T)))]) hx hb dL_law_1707 hl (by decide) rfl (fun ls hl => ?_)
  refine lv_aload_n hx hb dL_law_1709 rfl (lv_at hl 4 rfl) ?_
  refine mq_calli (va_runV (As := []) (rest := []) ⟨hx, hb, hml, hown, hts⟩ (c_X11_thrown l G A g1704 (ad 20 0 0) (yT (yThr Y (nI c9))) (nI (aD S)) (ad 21 0 0) (ad 23 0 0)) (cwV 0 hts gL_law_X11_thrown rfl rfl rfl (by decide +kernel) ⟨Nat.le_of_ble_eq_true rfl, Nat.le_of_ble_eq_true rfl⟩) (mq_preV hK hZ hS hA hM (q := (RX11, TX11, 4)) y20b rfl (y20b) _) rfl rfl hl.1 rfl (lv_room (Nat.le_of_ble_eq_true rfl)) dL_law_1710 ⟨by show (100 + 1177 * T + 3) + 0 ≤ 603072; omega, by show (20000 + 14000 * T + 16) + 0 ≤ 7194729; omega⟩) hS (fun r1710 g1710 H locs p1710 hM hS => ?_)
  refine W.widen (k := (100 + 1177 * T + 3)) (n := (20000 + 14000 * T + 16)) (by omega) (by omega) ?_
  obtain ⟨rfl, hr3⟩ := p1710
  have hr3 : r1710 = nI c9 := hr3
  subst hr3
  refine lv_iload hx hb dL_law_1713 (lv_at hl 1 rfl) ?_
  refine lv_icmp_eq (tgt := 1720) hx hb dL_law_1715 (by decide) (fun c_1715 => ?_) (fun c_1715 => (by exact absurd rfl c_1715))
  refine lv_iload hx hb dL_law_1720 (lv_at hl 1 rfl) ?_
  refine lv_if_ne (tgt := 1757) hx hb dL_law_1722 (by decide) (fun c_1722 => ?_) (fun c_1722 => ?_)
  · replace c_1722 : ¬ nI c9 = nI 0 := c_1722
    rw [nI_eq (by omega) (by omega)] at c_1722
    refine lv_goto (tgt := 1773) hx hb dL_law_1757 (by decide) ?_
    exact W.widen (by omega) (by omega) (K _ _ _ _ _ _ (hR8) (hO9) (hC) _ _ hM hS _ (lv_sub hl [2, 3, 4, 5, 6, 7] rfl))
  · replace c_1722 : nI c9 = nI 0 := c_1722
    rw [nI_eq (by omega) (by omega)] at c_1722
    have y38 := hR8.1 39 0 0 _ t39
    refine lv_aload hx hb dL_law_1725 (lv_at hl 6 rfl) ?_
    refine lv_iconst (v := 0) hx hb dL_law_1727 (by decide) ?_
    refine mq_dald hx hb hK hM y38 (vp_in_nI (n := 0) (by decide) (by decide)) dL_law_1728 ?_
    rw [show (0 : Int32).toNatClampNeg = 0 from rfl]
    rw [show O9.2 0 = v9 from hv9 c_1722]
    refine lv_dload hx hb dL_law_1729 (lv_at hl 0 rfl) ?_
    refine lv_dcmp hx hb dL_law_1731 ?_
    refine lv_if_eq (tgt := 1757) hx hb dL_law_1732 (by decide) (fun c_1732 => ?_) (fun c_1732 => ?_)
    · refine lv_goto (tgt := 1773) hx hb dL_law_1757 (by decide) ?_
      exact W.widen (by omega) (by omega) (K _ _ _ _ _ _ (hR8) (hO9) (hC) _ _ hM hS _ (lv_sub hl [2, 3, 4, 5, 6, 7] rfl))
    · refine lv_aload hx hb dL_law_1735 (lv_at hl 6 rfl) ?_
      refine lv_iconst (v := 0) hx hb dL_law_1737 (by decide) ?_
      refine mq_dald hx hb hK hM y38 (vp_in_nI (n := 0) (by decide) (by decide)) dL_law_1738 ?_
      rw [show (0 : Int32).toNatClampNeg = 0 from rfl]
      rw [show O9.2 0 = v9 from hv9 c_1722]
      refine lv_aload hx hb dL_law_1739 (lv_at hl 6 rfl) ?_
      refine lv_iconst (v := 0) hx hb dL_law_1741 (by decide) ?_
      refine mq_dald hx hb hK hM y38 (vp_in_nI (n := 0) (by decide) (by decide)) dL_law_1742 ?_
      rw [show (0 : Int32).toNatClampNeg = 0 from rfl]
      rw [show O9.2 0 = v9 from hv9 c_1722]
      refine lv_dcmp hx hb dL_law_1743 ?_
      refine lv_if_eq (tgt := 1755) hx hb dL_law_1744 (by decide) (fun c_1744 => absurd c_1744 (c_1732)) (fun c_1744 => ?_)
      refine lv_dload hx hb dL_law_1747 (lv_at hl 0 rfl) ?_
      refine lv_dload hx hb dL_law_1749 (lv_at hl 0 rfl) ?_
      refine lv_dcmp hx hb dL_law_1751 ?_
      refine lv_if_ne (tgt := 1757) hx hb dL_law_1752 (by decide) (fun c_1752 => ?_) (fun c_1752 => (by exact absurd c_1752 c_1732))
      refine lv_goto (tgt := 1773) hx hb dL_law_1757 (by decide) ?_
      exact W.widen (by omega) (by omega) (K _ _ _ _ _ _ (hR8) (hO9) (hC) _ _ hM hS _ (lv_sub hl [2, 3, 4, 5, 6, 7] rfl))

set_option maxHeartbeats 4000000 in
set_option maxRecDepth 100000 in
theorem lw_case24 (l : Launch) (hfl : l.stackTraces = false) {p : Program} {e : Env} {s : State} {m : MethodId} {below : List Frame} {meth : Method} {c : Code} {b L : Nat} {xs : Nat → Int32} {G : mq_G} {A : Nat → Prop} {Q : State → Prop} (hC0 : lw_C p s m meth c b L xs G A) {f : mq_F} {ad : AD} {S : AT} {X : CX} {Y : MX} {O : OX} {T : Nat} (hR : WR G f ad S X S Y O) (hO : cOK S X T) (hC : mCp S Y) (hT5 : T < 512) (hTL : 6 * T + 6 ≤ L) (K : lw_K p l e s m below meth c b G A Q T) {H : Heap} {locs : List Loc} (hM : mq_W G.1 A f H) (hS : va_S A s.heap H locs) {ls : Array Slot} (hl : lv_has ls 9 [(0, .ref b), (1, .ref (ad 0 0 0)), (2, .ref (ad 20 0 0)), (3, .ref (ad 38 0 0)), (4, .ref (ad 39 0 0)), (5, .int (nI (6 * T)))]) : W p l e room_1 s m #[Value.ref b] below meth c H locs (100 + 1177 * T) (20000 + 14000 * T) Q (F0 m 1760 ls []) := by
  obtain ⟨hx, hb, hml, hown, hts, hK, hZ, hA, hN, hX, hbl, hbA, hL⟩ := hC0
  have y0 := hR.1 _ _ _ _ t0
  refine lv_aload_n hx hb dL_law_1760 rfl (lv_at hl 1 rfl) ?_
  refine mq_calli (va_runV (As := []) (rest := []) ⟨hx, hb, hml, hown, hts⟩ (c_X7_isSound l G A f ad S X S Y O T) (cwV 0 hts gL_law_X7_isSound rfl rfl rfl (by decide +kernel) ⟨Nat.le_of_ble_eq_true rfl, Nat.le_of_ble_eq_true rfl⟩) (mq_preV hK hZ hS hA hM (q := (RX7, TX7, 6)) y0 rfl (⟨hR, hO⟩) _) rfl rfl hl.1 rfl (lv_room (Nat.le_of_ble_eq_true rfl)) dL_law_1761 ⟨by show (100 + 1177 * T) + 0 ≤ 603072; omega, by show (20000 + 14000 * T) + 0 ≤ 7194729; omega⟩) hS (fun r1761 g1761 H locs p1761 hM hS => ?_)
  refine W.widen (k := (100 + 1177 * T)) (n := (20000 + 14000 * T)) (by omega) (by omega) ?_
  obtain ⟨rfl, hr1⟩ := p1761
  have y20 := hR.1 20 0 0 _ t20
  refine lv_aload_n hx hb dL_law_1764 rfl (lv_at hl 2 rfl) ?_
  refine mq_calli (va_runV (As := []) (rest := [.int r1761]) ⟨hx, hb, hml, hown, hts⟩ (c_X11_isSound l G A f ad S X S Y O T) (cwV 0 hts gL_law_X11_isSound rfl rfl rfl (by decide +kernel) ⟨Nat.le_of_ble_eq_true rfl, Nat.le_of_ble_eq_true rfl⟩) (mq_preV hK hZ hS hA hM (q := (RX11, TX11, 4)) y20 rfl (⟨hR, ⟨⟨X, hO⟩, hC⟩⟩) _) rfl rfl hl.1 rfl (lv_room (Nat.le_of_ble_eq_true rfl)) dL_law_1765 ⟨by show (100 + 1177 * T) + 0 ≤ 603072; omega, by show (20000 + 14000 * T) + 0 ≤ 7194729; omega⟩) hS (fun r1765 g1765 H locs p1765 hM hS => ?_)
  refine W.widen (k := (100 + 1177 * T)) (n := (20000 + 14000 * T)) (by omega) (by omega) ?_
  obtain ⟨hr2, hR8⟩ := p1765
  refine lv_icmp_eq (tgt := 1773) hx hb dL_law_1768 (by decide) (fun c_1768 => ?_) (fun c_1768 => (by exact absurd (hr1.trans hr2.symm) c_1768))
  exact W.widen (by omega) (by omega) (K _ _ _ _ _ _ (hR8) (ok_mono hO hT5) (hC) _ _ hM hS _ (lv_sub hl [0, 1, 2, 3, 4, 5] rfl))
