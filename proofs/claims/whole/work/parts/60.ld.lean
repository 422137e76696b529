/-! THE LAW, call by call -/
set_option maxHeartbeats 4000000 in
set_option maxRecDepth 100000 in
theorem lw_case5 (l : Launch) (hfl : l.stackTraces = false) {p : Program} {e : Env} {s : State} {m : MethodId} {below : List Frame} {meth : Method} {c : Code} {b L : Nat} {xs : Nat → Int32} {G : mq_G} {A : Nat → Prop} {Q : State → Prop} (hC0 : lw_C p s m meth c b L xs G A) {f : mq_F} {ad : AD} {S : AT} {X : CX} {Y : MX} {O : OX} {T : Nat} (hR : WR G f ad S X S Y O) (hO : cOK S X T) (hC : mCp S Y) (hT5 : T < 512) (hTL : 6 * T + 6 ≤ L) (K : lw_K p l e s m below meth c b G A Q T) {H : Heap} {locs : List Loc} (hM : mq_W G.1 A f H) (hS : va_S A s.heap H locs) {ls : Array Slot} (hl : lv_has ls 9 [(0, .ref b), (1, .ref (ad 0 0 0)), (2, .ref (ad 20 0 0)), (3, .ref (ad 38 0 0)), (4, .ref (ad 39 0 0)), (5, .int (nI (6 * T)))]) : W p l e room_1 s m #[Value.ref b] below meth c H locs (100 + 1177 * T) (20000 + 14000 * T) Q (F0 m 509 ls []) := by
  obtain ⟨hx, hb, hml, hown, hts, hK, hZ, hA, hN, hX, hbl, hbA, hL⟩ := hC0
  have y0 := hR.1 _ _ _ _ t0
  refine lv_aload_n hx hb dL_law_509 rfl (lv_at hl 1 rfl) ?_
  refine lv_aload_n hx hb dL_law_510 rfl (lv_at hl 0 rfl) ?_
  refine lv_iload hx hb dL_law_511 (lv_at hl 5 rfl) ?_
  refine lv_iconst (v := 1) hx hb dL_law_513 (by decide) ?_
  refine lv_iadd hx hb dL_law_514 ?_
  rw [show (nI (6 * T)) + 1 = nI ((6 * T) + 1) from nI_add _ _]
  refine va_sld hx hb hX hbl hbA hS (vp_in_nI (by omega) (by omega)) dL_law_515 ?_
  rw [show (nI ((6 * T) + 1) : Int32).toNatClampNeg = (6 * T) + 1 from nI_clamp (by omega)]
  refine lv_aload_n hx hb dL_law_516 rfl (lv_at hl 0 rfl) ?_
  refine lv_iload hx hb dL_law_517 (lv_at hl 5 rfl) ?_
  refine lv_iconst (v := 2) hx hb dL_law_519 (by decide) ?_
  refine lv_iadd hx hb dL_law_520 ?_
  rw [show (nI (6 * T)) + 2 = nI ((6 * T) + 2) from nI_add _ _]
  refine va_sld hx hb hX hbl hbA hS (vp_in_nI (by omega) (by omega)) dL_law_521 ?_
  rw [show (nI ((6 * T) + 2) : Int32).toNatClampNeg = (6 * T) + 2 from nI_clamp (by omega)]
  refine lv_aload_n hx hb dL_law_522 rfl (lv_at hl 0 rfl) ?_
  refine lv_iload hx hb dL_law_523 (lv_at hl 5 rfl) ?_
  refine lv_iconst (v := 3) hx hb dL_law_525 (by decide) ?_
  refine lv_iadd hx hb dL_law_526 ?_
  rw [show (nI (6 * T)) + 3 = nI ((6 * T) + 3) from nI_add _ _]
  refine va_sld hx hb hX hbl hbA hS (vp_in_nI (by omega) (by omega)) dL_law_527 ?_
  rw [show (nI ((6 * T) + 3) : Int32).toNatClampNeg = (6 * T) + 3 from nI_clamp (by omega)]
  refine lv_aload_n hx hb dL_law_528 rfl (lv_at hl 3 rfl) ?_
  refine mq_calli (vx_runSW (As := [.ref (ad 0 0 0), .int (xs ((6 * T) + 1)), .int (xs ((6 * T) + 2)), .int (xs ((6 * T) + 3)), .ref (ad 38 0 0)]) (rest := []) ⟨hx, hb, hml, hown, hts⟩ (c_L_setOdds l hfl G A f ad S X S Y O T (xs (6 * T + 1)) (xs (6 * T + 2)) (xs (6 * T + 3))) (vx_cwSW 5 hts gL_law_L_setOdds rfl rfl rfl (by decide +kernel) ⟨Nat.le_of_ble_eq_true rfl, Nat.le_of_ble_eq_true rfl⟩) (lq_preS hK hZ hS hA hM hN (⟨hR, hO, hT5⟩) _) rfl rfl hl.1 rfl (lv_room (Nat.le_of_ble_eq_true rfl)) dL_law_529 ⟨by show (100 + 1177 * T) + 3 ≤ 603072; omega, by show (20000 + 14000 * T) + 18 ≤ 7194729; omega⟩) hS (fun r529 g529 H locs p529 hM hS => ?_)
  refine W.widen (k := (100 + 1177 * T + 3)) (n := (20000 + 14000 * T + 18)) (by omega) (by omega) ?_
  obtain ⟨c9, v9, S9, X9, O9, ad9, e9, rfl, hc9, hv9, hR9, hO9, hk9⟩ := p529
  have y20 := hR9.1 20 0 0 _ t20
  refine lv_istore (lv' := [(6, .int (nI c9)), (0, .ref b), (1, .ref (ad 0 0 0)), (2, .ref (ad 20 0 0)), (3, .ref (ad 38 0 0)), (4, .ref (ad 39 0 0)), (5, .int (nI (6 * T)))]) hx hb dL_law_532 hl (by decide) rfl (fun ls hl => ?_)
  rw [← hk9.1, ← hk9.2.1, ← hk9.2.2.1, ← hk9.2.2.2] at hl
  refine lv_aload_n hx hb dL_law_534 rfl (lv_at hl 3 rfl) ?_
  refine lv_aload_n hx hb dL_law_535 rfl (lv_at hl 1 rfl) ?_
  refine lv_iload hx hb dL_law_536 (lv_at hl 6 rfl) ?_
  refine lv_iconst (v := 1) hx hb dL_law_538 (by decide) ?_
  refine lv_iadd hx hb dL_law_539 ?_
  rw [show (nI (6 * T)) + 1 = nI ((6 * T) + 1) from nI_add _ _]
  refine va_sld hx hb hX hbl hbA hS (vp_in_nI (by omega) (by omega)) dL_law_540 ?_
  rw [show (nI ((6 * T) + 1) : Int32).toNatClampNeg = (6 * T) + 1 from nI_clamp (by omega)]
  refine lv_aload_n hx hb dL_law_541 rfl (lv_at hl 1 rfl) ?_
  refine lv_iload hx hb dL_law_542 (lv_at hl 6 rfl) ?_
  refine lv_iconst (v := 2) hx hb dL_law_544 (by decide) ?_
  refine lv_iadd hx hb dL_law_545 ?_
  rw [show (nI (6 * T)) + 2 = nI ((6 * T) + 2) from nI_add _ _]
  refine va_sld hx hb hX hbl hbA hS (vp_in_nI (by omega) (by omega)) dL_law_546 ?_
  rw [show (nI ((6 * T) + 2) : Int32).toNatClampNeg = (6 * T) + 2 from nI_clamp (by omega)]
  refine lv_aload_n hx hb dL_law_547 rfl (lv_at hl 1 rfl) ?_
  refine lv_iload hx hb dL_law_548 (lv_at hl 6 rfl) ?_
  refine lv_iconst (v := 3) hx hb dL_law_550 (by decide) ?_
  refine lv_iadd hx hb dL_law_551 ?_
  rw [show (nI (6 * T)) + 3 = nI ((6 * T) + 3) from nI_add _ _]
  refine va_sld hx hb hX hbl hbA hS (vp_in_nI (by omega) (by omega)) dL_law_552 ?_
  rw [show (nI ((6 * T) + 3) : Int32).toNatClampNeg = (6 * T) + 3 from nI_clamp (by omega)]
  refine mq_calli (va_runV (As := [.int (xs ((6 * T) + 1)), .int (xs ((6 * T) + 2)), .int (xs ((6 * T) + 3))]) (rest := []) ⟨hx, hb, hml, hown, hts⟩ (c_X11_setOdds l G A g529 ad9 S9 X9 S Y O9 T (xs (6 * T + 1)) (xs (6 * T + 2)) (xs (6 * T + 3))) (cwV 3 hts gL_law_X11_setOdds rfl rfl rfl (by decide +kernel) ⟨Nat.le_of_ble_eq_true rfl, Nat.le_of_ble_eq_true rfl⟩) (mq_preV hK hZ hS hA hM (q := (RX11, TX11, 4)) y20 rfl (⟨hR9, ⟨⟨X, hO⟩, hC⟩⟩) _) rfl rfl hl.1 rfl (lv_room (Nat.le_of_ble_eq_true rfl)) dL_law_553 ⟨by show (100 + 1177 * T + 3) + 0 ≤ 603072; omega, by show (20000 + 14000 * T + 18) + 0 ≤ 7194729; omega⟩) hS (fun r553 g553 H locs p553 hM hS => ?_)
  refine W.widen (k := (100 + 1177 * T + 3)) (n := (20000 + 14000 * T + 18)) (by omega) (by omega) ?_
  obtain ⟨c8, S8, Y8, ad8, e8, hR8, hC8, hk8⟩ := p553
  obtain ⟨rfl, e7⟩ := Prod.mk.inj (e9.symm.trans e8)
  obtain ⟨rfl, rfl⟩ := Prod.mk.inj e7
  have y20b := hR8.1 20 0 0 _ t20
  refine lv_istore (lv' := [(7, .int v9), (6, .int (nI c9)), (0, .ref b), (1, .ref (ad9 0 0 0)), (2, .ref (ad9 20 0 0)), (3, .ref (ad9 38 0 0)), (4, .ref (ad9 39 0 0)), (5, .int (nI (6 * T)))]) hx hb dL_law_556 hl (by decide) rfl (fun ls hl => ?_)
  rw [← hk8.1, ← hk8.2.1, ← hk8.2.2.1, ← hk8.2.2.2] at hl
  refine lv_aload_n hx hb dL_law_558 rfl (lv_at hl 4 rfl) ?_
  refine mq_calli (va_runV (As := []) (rest := []) ⟨hx, hb, hml, hown, hts⟩ (c_X11_thrown l G A g553 (ad8 20 0 0) (yT (yThr Y8 (nI c9))) (nI (aD S9)) (ad8 21 0 0) (ad8 23 0 0)) (cwV 0 hts gL_law_X11_thrown rfl rfl rfl (by decide +kernel) ⟨Nat.le_of_ble_eq_true rfl, Nat.le_of_ble_eq_true rfl⟩) (mq_preV hK hZ hS hA hM (q := (RX11, TX11, 4)) y20b rfl (y20b) _) rfl rfl hl.1 rfl (lv_room (Nat.le_of_ble_eq_true rfl)) dL_law_559 ⟨by show (100 + 1177 * T + 3) + 0 ≤ 603072; omega, by show (20000 + 14000 * T + 18) + 0 ≤ 7194729; omega⟩) hS (fun r559 g559 H locs p559 hM hS => ?_)
  refine W.widen (k := (100 + 1177 * T + 3)) (n := (20000 + 14000 * T + 18)) (by omega) (by omega) ?_
  obtain ⟨rfl, hr3⟩ := p559
  have hr3 : r559 = nI c9 := hr3
  subst hr3
  refine lv_iload hx hb dL_law_562 (lv_at hl 1 rfl) ?_
  refine lv_icmp_eq (tgt := 569) hx hb dL_law_564 (by decide) (fun c_564 => ?_) (fun c_564 => (by exact absurd rfl c_564))
  refine lv_iload hx hb dL_law_569 (lv_at hl 1 rfl) ?_
  refine lv_if_ne (tgt := 586) hx hb dL_law_571 (by decide) (fun c_571 => ?_) (fun c_571 => ?_)
  · replace c_571 : ¬ nI c9 = nI 0 := c_571
    rw [nI_eq (by omega) (by omega)] at c_571
    refine lv_goto (tgt := 1773) hx hb dL_law_586 (by decide) ?_
    exact W.widen (by omega) (by omega) (K _ _ _ _ _ _ (hR8) (hO9) (hC8) _ _ hM hS _ (lv_sub hl [2, 3, 4, 5, 6, 7] rfl))
  · replace c_571 : nI c9 = nI 0 := c_571
    rw [nI_eq (by omega) (by omega)] at c_571
    have y38 := hR8.1 38 0 0 _ t38
    refine lv_aload_n hx hb dL_law_574 rfl (lv_at hl 5 rfl) ?_
    refine lv_iconst (v := 0) hx hb dL_law_575 (by decide) ?_
    refine mq_lald hx hb hK hM y38 (vp_in_nI (n := 0) (by decide) (by decide)) dL_law_576 ?_
    rw [show (0 : Int32).toNatClampNeg = 0 from rfl]
    rw [show O9.1 0 = v9.toInt64 from hv9 c_571]
    refine lv_iload hx hb dL_law_577 (lv_at hl 0 rfl) ?_
    refine lv_i2l hx hb dL_law_579 rfl ?_
    refine W.lcmp hx hb dL_law_580 ?_
    refine lv_if_eq (tgt := 586) hx hb dL_law_581 (by decide) (fun c_581 => ?_) (fun c_581 => (by exact absurd ((lg_cmp_eq _ _).mpr rfl) c_581))
    refine lv_goto (tgt := 1773) hx hb dL_law_586 (by decide) ?_
    exact W.widen (by omega) (by omega) (K _ _ _ _ _ _ (hR8) (hO9) (hC8) _ _ hM hS _ (lv_sub hl [2, 3, 4, 5, 6, 7] rfl))

set_option maxHeartbeats 4000000 in
set_option maxRecDepth 100000 in
theorem lw_case6 (l : Launch) (hfl : l.stackTraces = false) {p : Program} {e : Env} {s : State} {m : MethodId} {below : List Frame} {meth : Method} {c : Code} {b L : Nat} {xs : Nat → Int32} {G : mq_G} {A : Nat → Prop} {Q : State → Prop} (hC0 : lw_C p s m meth c b L xs G A) {f : mq_F} {ad : AD} {S : AT} {X : CX} {Y : MX} {O : OX} {T : Nat} (hR : WR G f ad S X S Y O) (hO : cOK S X T) (hC : mCp S Y) (hT5 : T < 512) (hTL : 6 * T + 6 ≤ L) (K : lw_K p l e s m below meth c b G A Q T) {H : Heap} {locs : List Loc} (hM : mq_W G.1 A f H) (hS : va_S A s.heap H locs) {ls : Array Slot} (hl : lv_has ls 9 [(0, .ref b), (1, .ref (ad 0 0 0)), (2, .ref (ad 20 0 0)), (3, .ref (ad 38 0 0)), (4, .ref (ad 39 0 0)), (5, .int (nI (6 * T)))]) : W p l e room_1 s m #[Value.ref b] below meth c H locs (100 + 1177 * T) (20000 + 14000 * T) Q (F0 m 589 ls []) := by
  obtain ⟨hx, hb, hml, hown, hts, hK, hZ, hA, hN, hX, hbl, hbA, hL⟩ := hC0
  have y0 := hR.1 _ _ _ _ t0
  refine lv_aload_n hx hb dL_law_589 rfl (lv_at hl 1 rfl) ?_
  refine lv_aload_n hx hb dL_law_590 rfl (lv_at hl 0 rfl) ?_
  refine lv_iload hx hb dL_law_591 (lv_at hl 5 rfl) ?_
  refine lv_iconst (v := 1) hx hb dL_law_593 (by decide) ?_
  refine lv_iadd hx hb dL_law_594 ?_
  rw [show (nI (6 * T)) + 1 = nI ((6 * T) + 1) from nI_add _ _]
  refine va_sld hx hb hX hbl hbA hS (vp_in_nI (by omega) (by omega)) dL_law_595 ?_
  rw [show (nI ((6 * T) + 1) : Int32).toNatClampNeg = (6 * T) + 1 from nI_clamp (by omega)]
  refine lv_aload_n hx hb dL_law_596 rfl (lv_at hl 0 rfl) ?_
  refine lv_iload hx hb dL_law_597 (lv_at hl 5 rfl) ?_
  refine lv_iconst (v := 2) hx hb dL_law_599 (by decide) ?_
  refine lv_iadd hx hb dL_law_600 ?_
  rw [show (nI (6 * T)) + 2 = nI ((6 * T) + 2) from nI_add _ _]
  refine va_sld hx hb hX hbl hbA hS (vp_in_nI (by omega) (by omega)) dL_law_601 ?_
  rw [show (nI ((6 * T) + 2) : Int32).toNatClampNeg = (6 * T) + 2 from nI_clamp (by omega)]
  refine lv_aload_n hx hb dL_law_602 rfl (lv_at hl 0 rfl) ?_
  refine lv_iload hx hb dL_law_603 (lv_at hl 5 rfl) ?_
  refine lv_iconst (v := 3) hx hb dL_law_605 (by decide) ?_
  refine lv_iadd hx hb dL_law_606 ?_
  rw [show (nI (6 * T)) + 3 = nI ((6 * T) + 3) from nI_add _ _]
  refine va_sld hx hb hX hbl hbA hS (vp_in_nI (by omega) (by omega)) dL_law_607 ?_
  rw [show (nI ((6 * T) + 3) : Int32).toNatClampNeg = (6 * T) + 3 from nI_clamp (by omega)]
  refine lv_if_eq (tgt := 615) hx hb dL_law_608 (by decide) (fun c_608 => ?_) (fun c_608 => ?_)
  · refine lv_iconst (v := 0) hx hb dL_law_615 (by decide) ?_
    refine lv_aload_n hx hb dL_law_616 rfl (lv_at hl 3 rfl) ?_
    refine mq_calli (vx_runSW (As := [.ref (ad 0 0 0), .int (xs ((6 * T) + 1)), .int (xs ((6 * T) + 2)), .int 0, .ref (ad 38 0 0)]) (rest := []) ⟨hx, hb, hml, hown, hts⟩ (c_L_answer l hfl G A f ad S X S Y O T (xs (6 * T + 1)) (xs (6 * T + 2)) false) (vx_cwSW 5 hts gL_law_L_answer rfl rfl rfl (by decide +kernel) ⟨Nat.le_of_ble_eq_true rfl, Nat.le_of_ble_eq_true rfl⟩) (lq_preS hK hZ hS hA hM hN (⟨hR, hO, hT5⟩) _) rfl rfl hl.1 rfl (lv_room (Nat.le_of_ble_eq_true rfl)) dL_law_617 ⟨by show (100 + 1177 * T) + 3 ≤ 603072; omega, by show (20000 + 14000 * T) + 18 ≤ 7194729; omega⟩) hS (fun r617 g617 H locs p617 hM hS => ?_)
    refine W.widen (k := (100 + 1177 * T + 3)) (n := (20000 + 14000 * T + 18)) (by omega) (by omega) ?_
    obtain ⟨c9, v9, S9, X9, O9, ad9, e9, rfl, hc9, hv9, hR9, hO9, hk9⟩ := p617
    have y20 := hR9.1 20 0 0 _ t20
    refine lv_istore (lv' := [(6, .int (nI c9)), (0, .ref b), (1, .ref (ad 0 0 0)), (2, .ref (ad 20 0 0)), (3, .ref (ad 38 0 0)), (4, .ref (ad 39 0 0)), (5, .int (nI (6 * T)))]) hx hb dL_law_620 hl (by decide) rfl (fun ls hl => ?_)
    rw [← hk9.1, ← hk9.2.1, ← hk9.2.2.1, ← hk9.2.2.2] at hl
    refine lv_aload_n hx hb dL_law_622 rfl (lv_at hl 3 rfl) ?_
    refine lv_aload_n hx hb dL_law_623 rfl (lv_at hl 1 rfl) ?_
    refine lv_iload hx hb dL_law_624 (lv_at hl 6 rfl) ?_
    refine lv_iconst (v := 1) hx hb dL_law_626 (by decide) ?_
    refine lv_iadd hx hb dL_law_627 ?_
    rw [show (nI (6 * T)) + 1 = nI ((6 * T) + 1) from nI_add _ _]
    refine va_sld hx hb hX hbl hbA hS (vp_in_nI (by omega) (by omega)) dL_law_628 ?_
    rw [show (nI ((6 * T) + 1) : Int32).toNatClampNeg = (6 * T) + 1 from nI_clamp (by omega)]
    refine lv_aload_n hx hb dL_law_629 rfl (lv_at hl 1 rfl) ?_
    refine lv_iload hx hb dL_law_630 (lv_at hl 6 rfl) ?_
    refine lv_iconst (v := 2) hx hb dL_law_632 (by decide) ?_
    refine lv_iadd hx hb dL_law_633 ?_
    rw [show (nI (6 * T)) + 2 = nI ((6 * T) + 2) from nI_add _ _]
    refine va_sld hx hb hX hbl hbA hS (vp_in_nI (by omega) (by omega)) dL_law_634 ?_
    rw [show (nI ((6 * T) + 2) : Int32).toNatClampNeg = (6 * T) + 2 from nI_clamp (by omega)]
    refine lv_aload_n hx hb dL_law_635 rfl (lv_at hl 1 rfl) ?_
    refine lv_iload hx hb dL_law_636 (lv_at hl 6 rfl) ?_
    refine lv_iconst (v := 3) hx hb dL_law_638 (by decide) ?_
    refine lv_iadd hx hb dL_law_639 ?_
    rw [show (nI (6 * T)) + 3 = nI ((6 * T) + 3) from nI_add _ _]
    refine va_sld hx hb hX hbl hbA hS (vp_in_nI (by omega) (by omega)) dL_law_640 ?_
    rw [show (nI ((6 * T) + 3) : Int32).toNatClampNeg = (6 * T) + 3 from nI_clamp (by omega)]
    refine lv_if_eq (tgt := 648) hx hb dL_law_641 (by decide) (fun c_641 => ?_) (fun c_641 => (by exact absurd c_608 c_641))
    refine lv_iconst (v := 0) hx hb dL_law_648 (by decide) ?_
    refine mq_calli (va_runV (As := [.int (xs ((6 * T) + 1)), .int (xs ((6 * T) + 2)), .int 0]) (rest := []) ⟨hx, hb, hml, hown, hts⟩ (c_X11_answer l G A g617 ad9 S9 X9 S Y O9 T (xs (6 * T + 1)) (xs (6 * T + 2)) false) (cwV 3 hts gL_law_X11_answer rfl rfl rfl (by decide +kernel) ⟨Nat.le_of_ble_eq_true rfl, Nat.le_of_ble_eq_true rfl⟩) (mq_preV hK hZ hS hA hM (q := (RX11, TX11, 4)) y20 rfl (⟨hR9, ⟨⟨X, hO⟩, hC⟩, hT5⟩) _) rfl rfl hl.1 rfl (lv_room (Nat.le_of_ble_eq_true rfl)) dL_law_649 ⟨by show (100 + 1177 * T + 3) + 1 ≤ 603072; omega, by show (20000 + 14000 * T + 18) + 800 ≤ 7194729; omega⟩) hS (fun r649 g649 H locs p649 hM hS => ?_)
    refine W.widen (k := (100 + 1177 * T + 4)) (n := (20000 + 14000 * T + 818)) (by omega) (by omega) ?_
    obtain ⟨c8, S8, Y8, ad8, e8, hR8, hC8, hk8⟩ := p649
    obtain ⟨rfl, e7⟩ := Prod.mk.inj (e9.symm.trans e8)
    obtain ⟨rfl, rfl⟩ := Prod.mk.inj e7
    have y20b := hR8.1 20 0 0 _ t20
    refine lv_istore (lv' := [(7, .int v9), (6, .int (nI c9)), (0, .ref b), (1, .ref (ad9 0 0 0)), (2, .ref (ad9 20 0 0)), (3, .ref (ad9 38 0 0)), (4, .ref (ad9 39 0 0)), (5, .int (nI (6 * T)))]) hx hb dL_law_652 hl (by decide) rfl (fun ls hl => ?_)
    rw [← hk8.1, ← hk8.2.1, ← hk8.2.2.1, ← hk8.2.2.2] at hl
    refine lv_aload_n hx hb dL_law_654 rfl (lv_at hl 4 rfl) ?_
    refine mq_calli (va_runV (As := []) (rest := []) ⟨hx, hb, hml, hown, hts⟩ (c_X11_thrown l G A g649 (ad8 20 0 0) (yT (yThr Y8 (nI c9))) (nI (aD S9)) (ad8 21 0 0) (ad8 23 0 0)) (cwV 0 hts gL_law_X11_thrown rfl rfl rfl (by decide +kernel) ⟨Nat.le_of_ble_eq_true rfl, Nat.le_of_ble_eq_true rfl⟩) (mq_preV hK hZ hS hA hM (q := (RX11, TX11, 4)) y20b rfl (y20b) _) rfl rfl hl.1 rfl (lv_room (Nat.le_of_ble_eq_true rfl)) dL_law_655 ⟨by show (100 + 1177 * T + 4) + 0 ≤ 603072; omega, by show (20000 + 14000 * T + 818) + 0 ≤ 7194729; omega⟩) hS (fun r655 g655 H locs p655 hM hS => ?_)
    refine W.widen (k := (100 + 1177 * T + 4)) (n := (20000 + 14000 * T + 818)) (by omega) (by omega) ?_
    obtain ⟨rfl, hr3⟩ := p655
    have hr3 : r655 = nI c9 := hr3
    subst hr3
    refine lv_iload hx hb dL_law_658 (lv_at hl 1 rfl) ?_
    refine lv_icmp_eq (tgt := 665) hx hb dL_law_660 (by decide) (fun c_660 => ?_) (fun c_660 => (by exact absurd rfl c_660))
    refine lv_iload hx hb dL_law_665 (lv_at hl 1 rfl) ?_
    refine lv_if_ne (tgt := 682) hx hb dL_law_667 (by decide) (fun c_667 => ?_) (fun c_667 => ?_)
    · replace c_667 : ¬ nI c9 = nI 0 := c_667
      rw [nI_eq (by omega) (by omega)] at c_667
      refine lv_goto (tgt := 1773) hx hb dL_law_682 (by decide) ?_
      exact W.widen (by omega) (by omega) (K _ _ _ _ _ _ (hR8) (hO9) (hC8) _ _ hM hS _ (lv_sub hl [2, 3, 4, 5, 6, 7] rfl))
    · replace c_667 : nI c9 = nI 0 := c_667
      rw [nI_eq (by omega) (by omega)] at c_667
      have y38 := hR8.1 38 0 0 _ t38
      refine lv_aload_n hx hb dL_law_670 rfl (lv_at hl 5 rfl) ?_
      refine lv_iconst (v := 0) hx hb dL_law_671 (by decide) ?_
      refine mq_lald hx hb hK hM y38 (vp_in_nI (n := 0) (by decide) (by decide)) dL_law_672 ?_
      rw [show (0 : Int32).toNatClampNeg = 0 from rfl]
      rw [show O9.1 0 = v9.toInt64 from hv9 c_667]
      refine lv_iload hx hb dL_law_673 (lv_at hl 0 rfl) ?_
      refine lv_i2l hx hb dL_law_675 rfl ?_
      refine W.lcmp hx hb dL_law_676 ?_
      refine lv_if_eq (tgt := 682) hx hb dL_law_677 (by decide) (fun c_677 => ?_) (fun c_677 => (by exact absurd ((lg_cmp_eq _ _).mpr rfl) c_677))
      refine lv_goto (tgt := 1773) hx hb dL_law_682 (by decide) ?_
      exact W.widen (by omega) (by omega) (K _ _ _ _ _ _ (hR8) (hO9) (hC8) _ _ hM hS _ (lv_sub hl [2, 3, 4, 5, 6, 7] rfl))
  · refine lv_iconst (v := 1) hx hb dL_law_611 (by decide) ?_
    refine lv_goto (tgt := 616) hx hb dL_law_612 (by decide) ?_
    refine lv_aload_n hx hb dL_law_616 rfl (lv_at hl 3 rfl) ?_
    refine mq_calli (vx_runSW (As := [.ref (ad 0 0 0), .int (xs ((6 * T) + 1)), .int (xs ((6 * T) + 2)), .int 1, .ref (ad 38 0 0)]) (rest := []) ⟨hx, hb, hml, hown, hts⟩ (c_L_answer l hfl G A f ad S X S Y O T (xs (6 * T + 1)) (xs (6 * T + 2)) true) (vx_cwSW 5 hts gL_law_L_answer rfl rfl rfl (by decide +kernel) ⟨Nat.le_of_ble_eq_true rfl, Nat.le_of_ble_eq_true rfl⟩) (lq_preS hK hZ hS hA hM hN (⟨hR, hO, hT5⟩) _) rfl rfl hl.1 rfl (lv_room (Nat.le_of_ble_eq_true rfl)) dL_law_617 ⟨by show (100 + 1177 * T) + 3 ≤ 603072; omega, by show (20000 + 14000 * T) + 18 ≤ 7194729; omega⟩) hS (fun r617 g617 H locs p617 hM hS => ?_)
    refine W.widen (k := (100 + 1177 * T + 3)) (n := (20000 + 14000 * T + 18)) (by omega) (by omega) ?_
    obtain ⟨c9, v9, S9, X9, O9, ad9, e9, rfl, hc9, hv9, hR9, hO9, hk9⟩ := p617
    have y20 := hR9.1 20 0 0 _ t20
    refine lv_istore (lv' := [(6, .int (nI c9)), (0, .ref b), (1, .ref (ad 0 0 0)), (2, .ref (ad 20 0 0)), (3, .ref (ad 38 0 0)), (4, .ref (ad 39 0 0)), (5, .int (nI (6 * T)))]) hx hb dL_law_620 hl (by decide) rfl (fun ls hl => ?_)
    rw [← hk9.1, ← hk9.2.1, ← hk9.2.2.1, ← hk9.2.2.2] at hl
    refine lv_aload_n hx hb dL_law_622 rfl (lv_at hl 3 rfl) ?_
    refine lv_aload_n hx hb dL_law_623 rfl (lv_at hl 1 rfl) ?_
    refine lv_iload hx hb dL_law_624 (lv_at hl 6 rfl) ?_
    refine lv_iconst (v := 1) hx hb dL_law_626 (by decide) ?_
    refine lv_iadd hx hb dL_law_627 ?_
    rw [show (nI (6 * T)) + 1 = nI ((6 * T) + 1) from nI_add _ _]
    refine va_sld hx hb hX hbl hbA hS (vp_in_nI (by omega) (by omega)) dL_law_628 ?_
    rw [show (nI ((6 * T) + 1) : Int32).toNatClampNeg = (6 * T) + 1 from nI_clamp (by omega)]
    refine lv_aload_n hx hb dL_law_629 rfl (lv_at hl 1 rfl) ?_
    refine lv_iload hx hb dL_law_630 (lv_at hl 6 rfl) ?_
    refine lv_iconst (v := 2) hx hb dL_law_632 (by decide) ?_
    refine lv_iadd hx hb dL_law_633 ?_
    rw [show (nI (6 * T)) + 2 = nI ((6 * T) + 2) from nI_add _ _]
    refine va_sld hx hb hX hbl hbA hS (vp_in_nI (by omega) (by omega)) dL_law_634 ?_
    rw [show (nI ((6 * T) + 2) : Int32).toNatClampNeg = (6 * T) + 2 from nI_clamp (by omega)]
    refine lv_aload_n hx hb dL_law_635 rfl (lv_at hl 1 rfl) ?_
    refine lv_iload hx hb dL_law_636 (lv_at hl 6 rfl) ?_
    refine lv_iconst (v := 3) hx hb dL_law_638 (by decide) ?_
    refine lv_iadd hx hb dL_law_639 ?_
    rw [show (nI (6 * T)) + 3 = nI ((6 * T) + 3) from nI_add _ _]
    refine va_sld hx hb hX hbl hbA hS (vp_in_nI (by omega) (by omega)) dL_law_640 ?_
    rw [show (nI ((6 * T) + 3) : Int32).toNatClampNeg = (6 * T) + 3 from nI_clamp (by omega)]
    refine lv_if_eq (tgt := 648) hx hb dL_law_641 (by decide) (fun c_641 => absurd c_641 (c_608)) (fun c_641 => ?_)
    refine lv_iconst (v := 1) hx hb dL_law_644 (by decide) ?_
    refine lv_goto (tgt := 649) hx hb dL_law_645 (by decide) ?_
    refine mq_calli (va_runV (As := [.int (xs ((6 * T) + 1)), .int (xs ((6 * T) + 2)), .int 1]) (rest := []) ⟨hx, hb, hml, hown, hts⟩ (c_X11_answer l G A g617 ad9 S9 X9 S Y O9 T (xs (6 * T + 1)) (xs (6 * T + 2)) true) (cwV 3 hts gL_law_X11_answer rfl rfl rfl (by decide +kernel) ⟨Nat.le_of_ble_eq_true rfl, Nat.le_of_ble_eq_true rfl⟩) (mq_preV hK hZ hS hA hM (q := (RX11, TX11, 4)) y20 rfl (⟨hR9, ⟨⟨X, hO⟩, hC⟩, hT5⟩) _) rfl rfl hl.1 rfl (lv_room (Nat.le_of_ble_eq_true rfl)) dL_law_649 ⟨by show (100 + 1177 * T + 3) + 1 ≤ 603072; omega, by show (20000 + 14000 * T + 18) + 800 ≤ 7194729; omega⟩) hS (fun r649 g649 H locs p649 hM hS => ?_)
    refine W.widen (k := (100 + 1177 * T + 4)) (n := (20000 + 14000 * T + 818)) (by omega) (by omega) ?_
    obtain ⟨c8, S8, Y8, ad8, e8, hR8, hC8, hk8⟩ := p649
    obtain ⟨rfl, e7⟩ := Prod.mk.inj (e9.symm.trans e8)
    obtain ⟨rfl, rfl⟩ := Prod.mk.inj e7
    have y20b := hR8.1 20 0 0 _ t20
    refine lv_istore (lv' := [(7, .int v9), (6, .int (nI c9)), (0, .ref b), (1, .ref (ad9 0 0 0)), (2, .ref (ad9 20 0 0)), (3, .ref (ad9 38 0 0)), (4, .ref (ad9 39 0 0)), (5, .int (nI (6 * T)))]) hx hb dL_law_652 hl (by decide) rfl (fun ls hl => ?_)
    rw [← hk8.1, ← hk8.2.1, ← hk8.2.2.1, ← hk8.2.2.2] at hl
    refine lv_aload_n hx hb dL_law_654 rfl (lv_at hl 4 rfl) ?_
    refine mq_calli (va_runV (As := []) (rest := []) ⟨hx, hb, hml, hown, hts⟩ (c_X11_thrown l G A g649 (ad8 20 0 0) (yT (yThr Y8 (nI c9))) (nI (aD S9)) (ad8 21 0 0) (ad8 23 0 0)) (cwV 0 hts gL_law_X11_thrown rfl rfl rfl (by decide +kernel) ⟨Nat.le_of_ble_eq_true rfl, Nat.le_of_ble_eq_true rfl⟩) (mq_preV hK hZ hS hA hM (q := (RX11, TX11, 4)) y20b rfl (y20b) _) rfl rfl hl.1 rfl (lv_room (Nat.le_of_ble_eq_true rfl)) dL_law_655 ⟨by show (100 + 1177 * T + 4) + 0 ≤ 603072; omega, by show (20000 + 14000 * T + 818) + 0 ≤ 7194729; omega⟩) hS (fun r655 g655 H locs p655 hM hS => ?_)
    refine W.widen (k := (100 + 1177 * T + 4)) (n := (20000 + 14000 * T + 818)) (by omega) (by omega) ?_
    obtain ⟨rfl, hr3⟩ := p655
    have hr3 : r655 = nI c9 := hr3
    subst hr3
    refine lv_iload hx hb dL_law_658 (lv_at hl 1 rfl) ?_
    refine lv_icmp_eq (tgt := 665) hx hb dL_law_660 (by decide) (fun c_660 => ?_) (fun c_660 => (by exact absurd rfl c_660))
    refine lv_iload hx hb dL_law_665 (lv_at hl 1 rfl) ?_
    refine lv_if_ne (tgt := 682) hx hb dL_law_667 (by decide) (fun c_667 => ?_) (fun c_667 => ?_)
    · replace c_667 : ¬ nI c9 = nI 0 := c_667
      rw [nI_eq (by omega) (by omega)] at c_667
      refine lv_goto (tgt := 1773) hx hb dL_law_682 (by decide) ?_
      exact W.widen (by omega) (by omega) (K _ _ _ _ _ _ (hR8) (hO9) (hC8) _ _ hM hS _ (lv_sub hl [2, 3, 4, 5, 6, 7] rfl))
    · replace c_667 : nI c9 = nI 0 := c_667
      rw [nI_eq (by omega) (by omega)] at c_667
      have y38 := hR8.1 38 0 0 _ t38
      refine lv_aload_n hx hb dL_law_670 rfl (lv_at hl 5 rfl) ?_
      refine lv_iconst (v := 0) hx hb dL_law_671 (by decide) ?_
      refine mq_lald hx hb hK hM y38 (vp_in_nI (n := 0) (by decide) (by decide)) dL_law_672 ?_
      rw [show (0 : Int32).toNatClampNeg = 0 from rfl]
      rw [show O9.1 0 = v9.toInt64 from hv9 c_667]
      refine lv_iload hx hb dL_law_673 (lv_at hl 0 rfl) ?_
      refine lv_i2l hx hb dL_law_675 rfl ?_
      refine W.lcmp hx hb dL_law_676 ?_
      refine lv_if_eq (tgt := 682) hx hb dL_law_677 (by decide) (fun c_677 => ?_) (fun c_677 => (by exact absurd ((lg_cmp_eq _ _).mpr rfl) c_677))
      refine lv_goto (tgt := 1773) hx hb dL_law_682 (by decide) ?_
      exact W.widen (by omega) (by omega) (K _ _ _ _ _ _ (hR8) (hO9) (hC8) _ _ hM hS _ (lv_sub hl [2, 3, 4, 5, 6, 7] rfl))

set_option maxHeartbeats 4000000 in
set_option maxRecDepth 100000 in
theorem lw_case7 (l : Launch) (hfl : l.stackTraces = false) {p : Program} {e : Env} {s : State} {m : MethodId} {below : List Frame} {meth : Method} {c : Code} {b L : Nat} {xs : Nat → Int32} {G : mq_G} {A : Nat → Prop} {Q : State → Prop} (hC0 : lw_C p s m meth c b L xs G A) {f : mq_F} {ad : AD} {S : AT} {X : CX} {Y : MX} {O : OX} {T : Nat} (hR : WR G f ad S X S Y O) (hO : cOK S X T) (hC : mCp S Y) (hT5 : T < 512) (hTL : 6 * T + 6 ≤ L) (K : lw_K p l e s m below meth c b G A Q T) {H : Heap} {locs : List Loc} (hM : mq_W G.1 A f H) (hS : va_S A s.heap H locs) {ls : Array Slot} (hl : lv_has ls 9 [(0, .ref b), (1, .ref (ad 0 0 0)), (2, .ref (ad 20 0 0)), (3, .ref (ad 38 0 0)), (4, .ref (ad 39 0 0)), (5, .int (nI (6 * T)))]) : W p l e room_1 s m #[Value.ref b] below meth c H locs (100 + 1177 * T) (20000 + 14000 * T) Q (F0 m 685 ls []) := by
  obtain ⟨hx, hb, hml, hown, hts, hK, hZ, hA, hN, hX, hbl, hbA, hL⟩ := hC0
  have y0 := hR.1 _ _ _ _ t0
  refine lv_aload_n hx hb dL_law_685 rfl (lv_at hl 1 rfl) ?_
  refine lv_aload_n hx hb dL_law_686 rfl (lv_at hl 0 rfl) ?_
  refine lv_iload hx hb dL_law_687 (lv_at hl 5 rfl) ?_
  refine lv_iconst (v := 1) hx hb dL_law_689 (by decide) ?_
  refine lv_iadd hx hb dL_law_690 ?_
  rw [show (nI (6 * T)) + 1 = nI ((6 * T) + 1) from nI_add _ _]
  refine va_sld hx hb hX hbl hbA hS (vp_in_nI (by omega) (by omega)) dL_law_691 ?_
  rw [show (nI ((6 * T) + 1) : Int32).toNatClampNeg = (6 * T) + 1 from nI_clamp (by omega)]
  refine lv_aload_n hx hb dL_law_692 rfl (lv_at hl 0 rfl) ?_
  refine lv_iload hx hb dL_law_693 (lv_at hl 5 rfl) ?_
  refine lv_iconst (v := 2) hx hb dL_law_695 (by decide) ?_
  refine lv_iadd hx hb dL_law_696 ?_
  rw [show (nI (6 * T)) + 2 = nI ((6 * T) + 2) from nI_add _ _]
  refine va_sld hx hb hX hbl hbA hS (vp_in_nI (by omega) (by omega)) dL_law_697 ?_
  rw [show (nI ((6 * T) + 2) : Int32).toNatClampNeg = (6 * T) + 2 from nI_clamp (by omega)]
  refine lv_aload_n hx hb dL_law_698 rfl (lv_at hl 3 rfl) ?_
  refine mq_calli (vx_runSW (As := [.ref (ad 0 0 0), .int (xs ((6 * T) + 1)), .int (xs ((6 * T) + 2)), .ref (ad 38 0 0)]) (rest := []) ⟨hx, hb, hml, hown, hts⟩ (c_L_odds l hfl G A f ad S X S Y O T (xs (6 * T + 1)) (xs (6 * T + 2))) (vx_cwSW 4 hts gL_law_L_odds rfl rfl rfl (by decide +kernel) ⟨Nat.le_of_ble_eq_true rfl, Nat.le_of_ble_eq_true rfl⟩) (lq_preS hK hZ hS hA hM hN (⟨hR, hO, hT5⟩) _) rfl rfl hl.1 rfl (lv_room (Nat.le_of_ble_eq_true rfl)) dL_law_699 ⟨by show (100 + 1177 * T) + 2 ≤ 603072; omega, by show (20000 + 14000 * T) + 12 ≤ 7194729; omega⟩) hS (fun r699 g699 H locs p699 hM hS => ?_)
  refine W.widen (k := (100 + 1177 * T + 2)) (n := (20000 + 14000 * T + 12)) (by omega) (by omega) ?_
  obtain ⟨c9, v9, O9, e9, rfl, hc9, hv9, hR9⟩ := p699
  have y20 := hR9.1 20 0 0 _ t20
  have hO9 := ok_mono hO hT5
  refine lv_istore (lv' := [(6, .int (nI c9)), (0, .ref b), (1, .ref (ad 0 0 0)), (2, .ref (ad 20 0 0)), (3, .ref (ad 38 0 0)), (4, .ref (ad 39 0 0)), (5, .int (nI (6 * T)))]) hx hb dL_law_702 hl (by decide) rfl (fun ls hl => ?_)
  refine lv_aload_n hx hb dL_law_704 rfl (lv_at hl 3 rfl) ?_
  refine lv_aload_n hx hb dL_law_705 rfl (lv_at hl 1 rfl) ?_
  refine lv_iload hx hb dL_law_706 (lv_at hl 6 rfl) ?_
  refine lv_iconst (v := 1) hx hb dL_law_708 (by decide) ?_
  refine lv_iadd hx hb dL_law_709 ?_
  rw [show (nI (6 * T)) + 1 = nI ((6 * T) + 1) from nI_add _ _]
  refine va_sld hx hb hX hbl hbA hS (vp_in_nI (by omega) (by omega)) dL_law_710 ?_
  rw [show (nI ((6 * T) + 1) : Int32).toNatClampNeg = (6 * T) + 1 from nI_clamp (by omega)]
  refine lv_aload_n hx hb dL_law_711 rfl (lv_at hl 1 rfl) ?_
  refine lv_iload hx hb dL_law_712 (lv_at hl 6 rfl) ?_
  refine lv_iconst (v := 2) hx hb dL_law_714 (by decide) ?_
  refine lv_iadd hx hb dL_law_715 ?_
  rw [show (nI (6 * T)) + 2 = nI ((6 * T) + 2) from nI_add _ _]
  refine va_sld hx hb hX hbl hbA hS (vp_in_nI (by omega) (by omega)) dL_law_716 ?_
  rw [show (nI ((6 * T) + 2) : Int32).toNatClampNeg = (6 * T) + 2 from nI_clamp (by omega)]
  refine mq_calli (va_runV (As := [.int (xs ((6 * T) + 1)), .int (xs ((6 * T) + 2))]) (rest := []) ⟨hx, hb, hml, hown, hts⟩ (c_X11_odds l G A g699 ad S X S Y O9 T (xs (6 * T + 1)) (xs (6 * T + 2))) (cwV 2 hts gL_law_X11_odds rfl rfl rfl (by decide +kernel) ⟨Nat.le_of_ble_eq_true rfl, Nat.le_of_ble_eq_true rfl⟩) (mq_preV hK hZ hS hA hM (q := (RX11, TX11, 4)) y20 rfl (⟨hR9, ⟨⟨X, hO⟩, hC⟩⟩) _) rfl rfl hl.1 rfl (lv_room (Nat.le_of_ble_eq_true rfl)) dL_law_717 ⟨by show (100 + 1177 * T + 2) + 0 ≤ 603072; omega, by show (20000 + 14000 * T + 12) + 0 ≤ 7194729; omega⟩) hS (fun r717 g717 H locs p717 hM hS => ?_)
  refine W.widen (k := (100 + 1177 * T + 2)) (n := (20000 + 14000 * T + 12)) (by omega) (by omega) ?_
  obtain ⟨c8, e8, hR8⟩ := p717
  obtain ⟨rfl, rfl⟩ := Prod.mk.inj (e9.symm.trans e8)
  have y20b := hR8.1 20 0 0 _ t20
  refine lv_istore (lv' := [(7, .int v9), (6, .int (nI c9)), (0, .ref b), (1, .ref (ad 0 0 0)), (2, .ref (ad 20 0 0)), (3, .ref (ad 38 0 0)), (4, .ref (ad 39 0 0)), (5, .int (nI (6 * T)))]) hx hb dL_law_720 hl (by decide) rfl (fun ls hl => ?_)
  refine lv_aload_n hx hb dL_law_722 rfl (lv_at hl 4 rfl) ?_
  refine mq_calli (va_runV (As := []) (rest := []) ⟨hx, hb, hml, hown, hts⟩ (c_X11_thrown l G A g717 (ad 20 0 0) (yT (yThr Y (nI c9))) (nI (aD S)) (ad 21 0 0) (ad 23 0 0)) (cwV 0 hts gL_law_X11_thrown rfl rfl rfl (by decide +kernel) ⟨Nat.le_of_ble_eq_true rfl, Nat.le_of_ble_eq_true rfl⟩) (mq_preV hK hZ hS hA hM (q := (RX11, TX11, 4)) y20b rfl (y20b) _) rfl rfl hl.1 rfl (lv_room (Nat.le_of_ble_eq_true rfl)) dL_law_723 ⟨by show (100 + 1177 * T + 2) + 0 ≤ 603072; omega, by show (20000 + 14000 * T + 12) + 0 ≤ 7194729; omega⟩) hS (fun r723 g723 H locs p723 hM hS => ?_)
  refine W.widen (k := (100 + 1177 * T + 2)) (n := (20000 + 14000 * T + 12)) (by omega) (by omega) ?_
  obtain ⟨rfl, hr3⟩ := p723
  have hr3 : r723 = nI c9 := hr3
  subst hr3
  refine lv_iload hx hb dL_law_726 (lv_at hl 1 rfl) ?_
  refine lv_icmp_eq (tgt := 733) hx hb dL_law_728 (by decide) (fun c_728 => ?_) (fun c_728 => (by exact absurd rfl c_728))
  refine lv_iload hx hb dL_law_733 (lv_at hl 1 rfl) ?_
  refine lv_if_ne (tgt := 750) hx hb dL_law_735 (by decide) (fun c_735 => ?_) (fun c_735 => ?_)
  · replace c_735 : ¬ nI c9 = nI 0 := c_735
    rw [nI_eq (by omega) (by omega)] at c_735
    refine lv_goto (tgt := 1773) hx hb dL_law_750 (by decide) ?_
    exact W.widen (by omega) (by omega) (K _ _ _ _ _ _ (hR8) (hO9) (hC) _ _ hM hS _ (lv_sub hl [2, 3, 4, 5, 6, 7] rfl))
  · replace c_735 : nI c9 = nI 0 := c_735
    rw [nI_eq (by omega) (by omega)] at c_735
    have y38 := hR8.1 38 0 0 _ t38
    refine lv_aload_n hx hb dL_law_738 rfl (lv_at hl 5 rfl) ?_
    refine lv_iconst (v := 0) hx hb dL_law_739 (by decide) ?_
    refine mq_lald hx hb hK hM y38 (vp_in_nI (n := 0) (by decide) (by decide)) dL_law_740 ?_
    rw [show (0 : Int32).toNatClampNeg = 0 from rfl]
    rw [show O9.1 0 = v9.toInt64 from hv9 c_735]
    refine lv_iload hx hb dL_law_741 (lv_at hl 0 rfl) ?_
    refine lv_i2l hx hb dL_law_743 rfl ?_
    refine W.lcmp hx hb dL_law_744 ?_
    refine lv_if_eq (tgt := 750) hx hb dL_law_745 (by decide) (fun c_745 => ?_) (fun c_745 => (by exact absurd ((lg_cmp_eq _ _).mpr rfl) c_745))
    refine lv_goto (tgt := 1773) hx hb dL_law_750 (by decide) ?_
    exact W.widen (by omega) (by omega) (K _ _ _ _ _ _ (hR8) (hO9) (hC) _ _ hM hS _ (lv_sub hl [2, 3, 4, 5, 6, 7] rfl))

set_option maxHeartbeats 4000000 in
set_option maxRecDepth 100000 in
theorem lw_case8 (l : Launch) (hfl : l.stackTraces = false) {p : Program} {e : Env} {s : State} {m : MethodId} {below : List Frame} {meth : Method} {c : Code} {b L : Nat} {xs : Nat → Int32} {G : mq_G} {A : Nat → Prop} {Q : State → Prop} (hC0 : lw_C p s m meth c b L xs G A) {f : mq_F} {ad : AD} {S : AT} {X : CX} {Y : MX} {O : OX} {T : Nat} (hR : WR G f ad S X S Y O) (hO : cOK S X T) (hC : mCp S Y) (hT5 : T < 512) (hTL : 6 * T + 6 ≤ L) (K : lw_K p l e s m below meth c b G A Q T) {H : Heap} {locs : List Loc} (hM : mq_W G.1 A f H) (hS : va_S A s.heap H locs) {ls : Array Slot} (hl : lv_has ls 9 [(0, .ref b), (1, .ref (ad 0 0 0)), (2, .ref (ad 20 0 0)), (3, .ref (ad 38 0 0)), (4, .ref (ad 39 0 0)), (5, .int (nI (6 * T)))]) : W p l e room_1 s m #[Value.ref b] below meth c H locs (100 + 1177 * T) (20000 + 14000 * T) Q (F0 m 753 ls []) := by
  obtain ⟨hx, hb, hml, hown, hts, hK, hZ, hA, hN, hX, hbl, hbA, hL⟩ := hC0
  have y0 := hR.1 _ _ _ _ t0
  refine lv_aload_n hx hb dL_law_753 rfl (lv_at hl 1 rfl) ?_
  refine lv_aload_n hx hb dL_law_754 rfl (lv_at hl 0 rfl) ?_
  refine lv_iload hx hb dL_law_755 (lv_at hl 5 rfl) ?_
  refine lv_iconst (v := 1) hx hb dL_law_757 (by decide) ?_
  refine lv_iadd hx hb dL_law_758 ?_
  rw [show (nI (6 * T)) + 1 = nI ((6 * T) + 1) from nI_add _ _]
  refine va_sld hx hb hX hbl hbA hS (vp_in_nI (by omega) (by omega)) dL_law_759 ?_
  rw [show (nI ((6 * T) + 1) : Int32).toNatClampNeg = (6 * T) + 1 from nI_clamp (by omega)]
  refine lv_aload_n hx hb dL_law_760 rfl (lv_at hl 0 rfl) ?_
  refine lv_iload hx hb dL_law_761 (lv_at hl 5 rfl) ?_
  refine lv_iconst (v := 2) hx hb dL_law_763 (by decide) ?_
  refine lv_iadd hx hb dL_law_764 ?_
  rw [show (nI (6 * T)) + 2 = nI ((6 * T) + 2) from nI_add _ _]
  refine va_sld hx hb hX hbl hbA hS (vp_in_nI (by omega) (by omega)) dL_law_765 ?_
  rw [show (nI ((6 * T) + 2) : Int32).toNatClampNeg = (6 * T) + 2 from nI_clamp (by omega)]
  refine lv_aload_n hx hb dL_law_766 rfl (lv_at hl 3 rfl) ?_
  refine mq_calli (vx_runSW (As := [.ref (ad 0 0 0), .int (xs ((6 * T) + 1)), .int (xs ((6 * T) + 2)), .ref (ad 38 0 0)]) (rest := []) ⟨hx, hb, hml, hown, hts⟩ (c_L_oddsAnew l hfl G A f ad S X S Y O T (xs (6 * T + 1)) (xs (6 * T + 2))) (vx_cwSW 4 hts gL_law_L_oddsAnew rfl rfl rfl (by decide +kernel) ⟨Nat.le_of_ble_eq_true rfl, Nat.le_of_ble_eq_true rfl⟩) (lq_preS hK hZ hS hA hM hN (⟨hR, hO, hT5⟩) _) rfl rfl hl.1 rfl (lv_room (Nat.le_of_ble_eq_true rfl)) dL_law_767 ⟨by show (100 + 1177 * T) + 3 ≤ 603072; omega, by show (20000 + 14000 * T) + 18 ≤ 7194729; omega⟩) hS (fun r767 g767 H locs p767 hM hS => ?_)
  refine W.widen (k := (100 + 1177 * T + 3)) (n := (20000 + 14000 * T + 18)) (by omega) (by omega) ?_
  obtain ⟨c9, v9, O9, e9, rfl, hc9, hv9, hR9⟩ := p767
  have y20 := hR9.1 20 0 0 _ t20
  have hO9 := ok_mono hO hT5
  refine lv_istore (lv' := [(6, .int (nI c9)), (0, .ref b), (1, .ref (ad 0 0 0)), (2, .ref (ad 20 0 0)), (3, .ref (ad 38 0 0)), (4, .ref (ad 39 0 0)), (5, .int (nI (6 * T)))]) hx hb dL_law_770 hl (by decide) rfl (fun ls hl => ?_)
  refine lv_aload_n hx hb dL_law_772 rfl (lv_at hl 3 rfl) ?_
  refine lv_aload_n hx hb dL_law_773 rfl (lv_at hl 1 rfl) ?_
  refine lv_iload hx hb dL_law_774 (lv_at hl 6 rfl) ?_
  refine lv_iconst (v := 1) hx hb dL_law_776 (by decide) ?_
  refine lv_iadd hx hb dL_law_777 ?_
  rw [show (nI (6 * T)) + 1 = nI ((6 * T) + 1) from nI_add _ _]
  refine va_sld hx hb hX hbl hbA hS (vp_in_nI (by omega) (by omega)) dL_law_778 ?_
  rw [show (nI ((6 * T) + 1) : Int32).toNatClampNeg = (6 * T) + 1 from nI_clamp (by omega)]
  refine lv_aload_n hx hb dL_law_779 rfl (lv_at hl 1 rfl) ?_
  refine lv_iload hx hb dL_law_780 (lv_at hl 6 rfl) ?_
  refine lv_iconst (v := 2) hx hb dL_law_782 (by decide) ?_
  refine lv_iadd hx hb dL_law_783 ?_
  rw [show (nI (6 * T)) + 2 = nI ((6 * T) + 2) from nI_add _ _]
  refine va_sld hx hb hX hbl hbA hS (vp_in_nI (by omega) (by omega)) dL_law_784 ?_
  rw [show (nI ((6 * T) + 2) : Int32).toNatClampNeg = (6 * T) + 2 from nI_clamp (by omega)]
  refine mq_calli (va_runV (As := [.int (xs ((6 * T) + 1)), .int (xs ((6 * T) + 2))]) (rest := []) ⟨hx, hb, hml, hown, hts⟩ (c_X11_oddsAnew l G A g767 ad S X S Y O9 T (xs (6 * T + 1)) (xs (6 * T + 2))) (cwV 2 hts gL_law_X11_oddsAnew rfl rfl rfl (by decide +kernel) ⟨Nat.le_of_ble_eq_true rfl, Nat.le_of_ble_eq_true rfl⟩) (mq_preV hK hZ hS hA hM (q := (RX11, TX11, 4)) y20 rfl (⟨hR9, ⟨⟨X, hO⟩, hC⟩⟩) _) rfl rfl hl.1 rfl (lv_room (Nat.le_of_ble_eq_true rfl)) dL_law_785 ⟨by show (100 + 1177 * T + 3) + 1 ≤ 603072; omega, by show (20000 + 14000 * T + 18) + 4 ≤ 7194729; omega⟩) hS (fun r785 g785 H locs p785 hM hS => ?_)
  refine W.widen (k := (100 + 1177 * T + 4)) (n := (20000 + 14000 * T + 22)) (by omega) (by omega) ?_
  obtain ⟨c8, e8, hR8⟩ := p785
  rw [anew_eq hO] at e8
  obtain ⟨rfl, rfl⟩ := Prod.mk.inj (e9.symm.trans e8)
  have y20b := hR8.1 20 0 0 _ t20
  refine lv_istore (lv' := [(7, .int v9), (6, .int (nI c9)), (0, .ref b), (1, .ref (ad 0 0 0)), (2, .ref (ad 20 0 0)), (3, .ref (ad 38 0 0)), (4, .ref (ad 39 0 0)), (5, .int (nI (6 * T)))]) hx hb dL_law_788 hl (by decide) rfl (fun ls hl => ?_)
  refine lv_aload_n hx hb dL_law_790 rfl (lv_at hl 4 rfl) ?_
  refine mq_calli (va_runV (As := []) (rest := []) ⟨hx, hb, hml, hown, hts⟩ (c_X11_thrown l G A g785 (ad 20 0 0) (yT (yThr Y (nI c9))) (nI (aD S)) (ad 21 0 0) (ad 23 0 0)) (cwV 0 hts gL_law_X11_thrown rfl rfl rfl (by decide +kernel) ⟨Nat.le_of_ble_eq_true rfl, Nat.le_of_ble_eq_true rfl⟩) (mq_preV hK hZ hS hA hM (q := (RX11, TX11, 4)) y20b rfl (y20b) _) rfl rfl hl.1 rfl (lv_room (Nat.le_of_ble_eq_true rfl)) dL_law_791 ⟨by show (100 + 1177 * T + 4) + 0 ≤ 603072; omega, by show (20000 + 14000 * T + 22) + 0 ≤ 7194729; omega⟩) hS (fun r791 g791 H locs p791 hM hS => ?_)
  refine W.widen (k := (100 + 1177 * T + 4)) (n := (20000 + 14000 * T + 22)) (by omega) (by omega) ?_
  obtain ⟨rfl, hr3⟩ := p791
  have hr3 : r791 = nI c9 := hr3
  subst hr3
  refine lv_iload hx hb dL_law_794 (lv_at hl 1 rfl) ?_
  refine lv_icmp_eq (tgt := 801) hx hb dL_law_796 (by decide) (fun c_796 => ?_) (fun c_796 => (by exact absurd rfl c_796))
  refine lv_iload hx hb dL_law_801 (lv_at hl 1 rfl) ?_
  refine lv_if_ne (tgt := 818) hx hb dL_law_803 (by decide) (fun c_803 => ?_) (fun c_803 => ?_)
  · replace c_803 : ¬ nI c9 = nI 0 := c_803
    rw [nI_eq (by omega) (by omega)] at c_803
    refine lv_goto (tgt := 1773) hx hb dL_law_818 (by decide) ?_
    exact W.widen (by omega) (by omega) (K _ _ _ _ _ _ (hR8) (hO9) (hC) _ _ hM hS _ (lv_sub hl [2, 3, 4, 5, 6, 7] rfl))
  · replace c_803 : nI c9 = nI 0 := c_803
    rw [nI_eq (by omega) (by omega)] at c_803
    have y38 := hR8.1 38 0 0 _ t38
    refine lv_aload_n hx hb dL_law_806 rfl (lv_at hl 5 rfl) ?_
    refine lv_iconst (v := 0) hx hb dL_law_807 (by decide) ?_
    refine mq_lald hx hb hK hM y38 (vp_in_nI (n := 0) (by decide) (by decide)) dL_law_808 ?_
    rw [show (0 : Int32).toNatClampNeg = 0 from rfl]
    rw [show O9.1 0 = v9.toInt64 from hv9 c_803]
    refine lv_iload hx hb dL_law_809 (lv_at hl 0 rfl) ?_
    refine lv_i2l hx hb dL_law_811 rfl ?_
    refine W.lcmp hx hb dL_law_812 ?_
    refine lv_if_eq (tgt := 818) hx hb dL_law_813 (by decide) (fun c_813 => ?_) (fun c_813 => (by exact absurd ((lg_cmp_eq _ _).mpr rfl) c_813))
    refine lv_goto (tgt := 1773) hx hb dL_law_818 (by decide) ?_
    exact W.widen (by omega) (by omega) (K _ _ _ _ _ _ (hR8) (hO9) (hC) _ _ hM hS _ (lv_sub hl [2, 3, 4, 5, 6, 7] rfl))

set_option maxHeartbeats 4000000 in
set_option maxRecDepth 100000 in
theorem lw_case9 (l : Launch) (hfl : l.stackTraces = false) {p : Program} {e : Env} {s : State} {m : MethodId} {below : List Frame} {meth : Method} {c : Code} {b L : Nat} {xs : Nat → Int32} {G : mq_G} {A : Nat → Prop} {Q : State → Prop} (hC0 : lw_C p s m meth c b L xs G A) {f : mq_F} {ad : AD} {S : AT} {X : CX} {Y : MX} {O : OX} {T : Nat} (hR : WR G f ad S X S Y O) (hO : cOK S X T) (hC : mCp S Y) (hT5 : T < 512) (hTL : 6 * T + 6 ≤ L) (K : lw_K p l e s m below meth c b G A Q T) {H : Heap} {locs : List Loc} (hM : mq_W G.1 A f H) (hS : va_S A s.heap H locs) {ls : Array Slot} (hl : lv_has ls 9 [(0, .ref b), (1, .ref (ad 0 0 0)), (2, .ref (ad 20 0 0)), (3, .ref (ad 38 0 0)), (4, .ref (ad 39 0 0)), (5, .int (nI (6 * T)))]) : W p l e room_1 s m #[Value.ref b] below meth c H locs (100 + 1177 * T) (20000 + 14000 * T) Q (F0 m 821 ls []) := by
  obtain ⟨hx, hb, hml, hown, hts, hK, hZ, hA, hN, hX, hbl, hbA, hL⟩ := hC0
  have y0 := hR.1 _ _ _ _ t0
  refine lv_aload_n hx hb dL_law_821 rfl (lv_at hl 1 rfl) ?_
  refine lv_aload_n hx hb dL_law_822 rfl (lv_at hl 0 rfl) ?_
  refine lv_iload hx hb dL_law_823 (lv_at hl 5 rfl) ?_
  refine lv_iconst (v := 1) hx hb dL_law_825 (by decide) ?_
  refine lv_iadd hx hb dL_law_826 ?_
  rw [show (nI (6 * T)) + 1 = nI ((6 * T) + 1) from nI_add _ _]
  refine va_sld hx hb hX hbl hbA hS (vp_in_nI (by omega) (by omega)) dL_law_827 ?_
  rw [show (nI ((6 * T) + 1) : Int32).toNatClampNeg = (6 * T) + 1 from nI_clamp (by omega)]
  refine lv_aload_n hx hb dL_law_828 rfl (lv_at hl 0 rfl) ?_
  refine lv_iload hx hb dL_law_829 (lv_at hl 5 rfl) ?_
  refine lv_iconst (v := 2) hx hb dL_law_831 (by decide) ?_
  refine lv_iadd hx hb dL_law_832 ?_
  rw [show (nI (6 * T)) + 2 = nI ((6 * T) + 2) from nI_add _ _]
  refine va_sld hx hb hX hbl hbA hS (vp_in_nI (by omega) (by omega)) dL_law_833 ?_
  rw [show (nI ((6 * T) + 2) : Int32).toNatClampNeg = (6 * T) + 2 from nI_clamp (by omega)]
  refine lv_aload_n hx hb dL_law_834 rfl (lv_at hl 3 rfl) ?_
  refine mq_calli (vx_runSW (As := [.ref (ad 0 0 0), .int (xs ((6 * T) + 1)), .int (xs ((6 * T) + 2)), .ref (ad 38 0 0)]) (rest := []) ⟨hx, hb, hml, hown, hts⟩ (c_L_answers l hfl G A f ad S X S Y O T (xs (6 * T + 1)) (xs (6 * T + 2))) (vx_cwSW 4 hts gL_law_L_answers rfl rfl rfl (by decide +kernel) ⟨Nat.le_of_ble_eq_true rfl, Nat.le_of_ble_eq_true rfl⟩) (lq_preS hK hZ hS hA hM hN (⟨hR, hO, hT5⟩) _) rfl rfl hl.1 rfl (lv_room (Nat.le_of_ble_eq_true rfl)) dL_law_835 ⟨by show (100 + 1177 * T) + 2 ≤ 603072; omega, by show (20000 + 14000 * T) + 12 ≤ 7194729; omega⟩) hS (fun r835 g835 H locs p835 hM hS => ?_)
  refine W.widen (k := (100 + 1177 * T + 2)) (n := (20000 + 14000 * T + 12)) (by omega) (by omega) ?_
  obtain ⟨c9, v9, O9, e9, rfl, hc9, hv9, hR9⟩ := p835
  have y20 := hR9.1 20 0 0 _ t20
  have hO9 := ok_mono hO hT5
  refine lv_istore (lv' := [(6, .int (nI c9)), (0, .ref b), (1, .ref (ad 0 0 0)), (2, .ref (ad 20 0 0)), (3, .ref (ad 38 0 0)), (4, .ref (ad 39 0 0)), (5, .int (nI (6 * T)))]) hx hb dL_law_838 hl (by decide) rfl (fun ls hl => ?_)
  refine lv_aload_n hx hb dL_law_840 rfl (lv_at hl 3 rfl) ?_
  refine lv_aload_n hx hb dL_law_841 rfl (lv_at hl 1 rfl) ?_
  refine lv_iload hx hb dL_law_842 (lv_at hl 6 rfl) ?_
  refine lv_iconst (v := 1) hx hb dL_law_844 (by decide) ?_
  refine lv_iadd hx hb dL_law_845 ?_
  rw [show (nI (6 * T)) + 1 = nI ((6 * T) + 1) from nI_add _ _]
  refine va_sld hx hb hX hbl hbA hS (vp_in_nI (by omega) (by omega)) dL_law_846 ?_
  rw [show (nI ((6 * T) + 1) : Int32).toNatClampNeg = (6 * T) + 1 from nI_clamp (by omega)]
  refine lv_aload_n hx hb dL_law_847 rfl (lv_at hl 1 rfl) ?_
  refine lv_iload hx hb dL_law_848 (lv_at hl 6 rfl) ?_
  refine lv_iconst (v := 2) hx hb dL_law_850 (by decide) ?_
  refine lv_iadd hx hb dL_law_851 ?_
  rw [show (nI (6 * T)) + 2 = nI ((6 * T) + 2) from nI_add _ _]
  refine va_sld hx hb hX hbl hbA hS (vp_in_nI (by omega) (by omega)) dL_law_852 ?_
  rw [show (nI ((6 * T) + 2) : Int32).toNatClampNeg = (6 * T) + 2 from nI_clamp (by omega)]
  refine mq_calli (va_runV (As := [.int (xs ((6 * T) + 1)), .int (xs ((6 * T) + 2))]) (rest := []) ⟨hx, hb, hml, hown, hts⟩ (c_X11_answers l G A g835 ad S X S Y O9 T (xs (6 * T + 1)) (xs (6 * T + 2))) (cwV 2 hts gL_law_X11_answers rfl rfl rfl (by decide +kernel) ⟨Nat.le_of_ble_eq_true rfl, Nat.le_of_ble_eq_true rfl⟩) (mq_preV hK hZ hS hA hM (q := (RX11, TX11, 4)) y20 rfl (⟨hR9, ⟨⟨X, hO⟩, hC⟩⟩) _) rfl rfl hl.1 rfl (lv_room (Nat.le_of_ble_eq_true rfl)) dL_law_853 ⟨by show (100 + 1177 * T + 2) + 0 ≤ 603072; omega, by show (20000 + 14000 * T + 12) + 0 ≤ 7194729; omega⟩) hS (fun r853 g853 H locs p853 hM hS => ?_)
  refine W.widen (k := (100 + 1177 * T + 2)) (n := (20000 + 14000 * T + 12)) (by omega) (by omega) ?_
  obtain ⟨c8, e8, hR8⟩ := p853
  obtain ⟨rfl, rfl⟩ := Prod.mk.inj (e9.symm.trans e8)
  have y20b := hR8.1 20 0 0 _ t20
  refine lv_istore (lv' := [(7, .int v9), (6, .int (nI c9)), (0, .ref b), (1, .ref (ad 0 0 0)), (2, .ref (ad 20 0 0)), (3, .ref (ad 38 0 0)), (4, .ref (ad 39 0 0)), (5, .int (nI (6 * T)))]) hx hb dL_law_856 hl (by decide) rfl (fun ls hl => ?_)
  refine lv_aload_n hx hb dL_law_858 rfl (lv_at hl 4 rfl) ?_
  refine mq_calli (va_runV (As := []) (rest := []) ⟨hx, hb, hml, hown, hts⟩ (c_X11_thrown l G A g853 (ad 20 0 0) (yT (yThr Y (nI c9))) (nI (aD S)) (ad 21 0 0) (ad 23 0 0)) (cwV 0 hts gL_law_X11_thrown rfl rfl rfl (by decide +kernel) ⟨Nat.le_of_ble_eq_true rfl, Nat.le_of_ble_eq_true rfl⟩) (mq_preV hK hZ hS hA hM (q := (RX11, TX11, 4)) y20b rfl (y20b) _) rfl rfl hl.1 rfl (lv_room (Nat.le_of_ble_eq_true rfl)) dL_law_859 ⟨by show (100 + 1177 * T + 2) + 0 ≤ 603072; omega, by show (20000 + 14000 * T + 12) + 0 ≤ 7194729; omega⟩) hS (fun r859 g859 H locs p859 hM hS => ?_)
  refine W.widen (k := (100 + 1177 * T + 2)) (n := (20000 + 14000 * T + 12)) (by omega) (by omega) ?_
  obtain ⟨rfl, hr3⟩ := p859
  have hr3 : r859 = nI c9 := hr3
  subst hr3
  refine lv_iload hx hb dL_law_862 (lv_at hl 1 rfl) ?_
  refine lv_icmp_eq (tgt := 869) hx hb dL_law_864 (by decide) (fun c_864 => ?_) (fun c_864 => (by exact absurd rfl c_864))
  refine lv_iload hx hb dL_law_869 (lv_at hl 1 rfl) ?_
  refine lv_if_ne (tgt := 886) hx hb dL_law_871 (by decide) (fun c_871 => ?_) (fun c_871 => ?_)
  · replace c_871 : ¬ nI c9 = nI 0 := c_871
    rw [nI_eq (by omega) (by omega)] at c_871
    refine lv_goto (tgt := 1773) hx hb dL_law_886 (by decide) ?_
    exact W.widen (by omega) (by omega) (K _ _ _ _ _ _ (hR8) (hO9) (hC) _ _ hM hS _ (lv_sub hl [2, 3, 4, 5, 6, 7] rfl))
  · replace c_871 : nI c9 = nI 0 := c_871
    rw [nI_eq (by omega) (by omega)] at c_871
    have y38 := hR8.1 38 0 0 _ t38
    refine lv_aload_n hx hb dL_law_874 rfl (lv_at hl 5 rfl) ?_
    refine lv_iconst (v := 0) hx hb dL_law_875 (by decide) ?_
    refine mq_lald hx hb hK hM y38 (vp_in_nI (n := 0) (by decide) (by decide)) dL_law_876 ?_
    rw [show (0 : Int32).toNatClampNeg = 0 from rfl]
    rw [show O9.1 0 = v9.toInt64 from hv9 c_871]
    refine lv_iload hx hb dL_law_877 (lv_at hl 0 rfl) ?_
    refine lv_i2l hx hb dL_law_879 rfl ?_
    refine W.lcmp hx hb dL_law_880 ?_
    refine lv_if_eq (tgt := 886) hx hb dL_law_881 (by decide) (fun c_881 => ?_) (fun c_881 => (by exact absurd ((lg_cmp_eq _ _).mpr rfl) c_881))
    refine lv_goto (tgt := 1773) hx hb dL_law_886 (by decide) ?_
    exact W.widen (by omega) (by omega) (K _ _ _ _ _ _ (hR8) (hO9) (hC) _ _ hM hS _ (lv_sub hl [2, 3, 4, 5, 6, 7] rfl))
