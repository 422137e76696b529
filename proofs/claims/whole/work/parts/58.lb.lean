/-! THE LAW'S METHODS -/
set_option maxHeartbeats 4000000 in
set_option maxRecDepth 100000 in
theorem c_L_reviews (l : Launch) (hfl : l.stackTraces = false) (G : mq_G) (A : Nat → Prop) (f : mq_F) (ad : AD) (S : AT) (X : CX) (S2 : AT) (Y : MX) (O : OX) (T : Nat) (ua : Int32) : Met l yL_reviews wsL_reviews ({ frames := 9, cells := 1, slots := 6, locals := 165 } : Room) (lq_Pc G A f (WR G f ad S X S2 Y O ∧ cOK S X T ∧ T < 512) [.ref (ad 0 0 0), .int ua, .ref (ad 38 0 0)]) (mq_Qi G A (fun r g => ∃ c9 v O9, spRev S ua = (c9, v) ∧ r = nI c9 ∧ c9 ≤ 3 ∧ (c9 = 0 → O9.1 0 = (v).toInt64) ∧ WR G g ad S X S2 Y O9)) 1 6 A := by
  refine lq_ofWH (cc := cL_reviews) (maxL := 4) (ret := (some .int)) (hh := [(0, 9, 12, 21)]) (by decide) rfl ?_
  intro p e s m args below meth c s₁ B hml hv
  obtain ⟨rfl, ⟨⟨hK, hZ, hM, hA⟩, hN⟩, hp⟩ := hv
  have hx := B.exec
  have hb := B.bytes
  have hr := B.returns
  have hts := atoms_spec (ws := wsL_reviews) B.pre
  have hown : s.vm.findClass RL = some m.cls := findClass_of_methodNamed B.named
  have ht9 := vx_table (x := yL_reviews) B (hts _ List.mem_cons_self)
  have hlocks := B.notSynchronized
  have hS : va_S A s.heap s.heap [] := va_S.rf
  have hl := lv_entry ([.ref (ad 0 0 0), .int ua, .ref (ad 38 0 0)]) (n := 4) (Nat.le_of_ble_eq_true rfl)
  rw [lg_entry_eq]
  generalize (lg_sl ([.ref (ad 0 0 0), .int ua, .ref (ad 38 0 0)]) ++ List.replicate (4 - (lg_sl ([.ref (ad 0 0 0), .int ua, .ref (ad 38 0 0)])).length) Slot.unset).toArray = ls at hl ⊢
  have hl : lv_has ls 4 [(0, .ref (ad 0 0 0)), (1, .int ua), (2, .ref (ad 38 0 0))] := hl
  have w0 := hts (.classLink RL 21 "java/lang/IndexOutOfBoundsException") (List.mem_of_getElem? (i := 1) rfl)
  obtain ⟨hR, hO, hT5⟩ := hp
  have y0 := hR.1 _ _ _ _ t0
  have y38 := hR.1 38 0 0 _ t38
  refine lv_aload_n hx hb dL_reviews_0 rfl (lv_at hl 2 rfl) ?_
  refine lv_iconst (v := 0) hx hb dL_reviews_1 (by decide) ?_
  refine lv_aload_n hx hb dL_reviews_2 rfl (lv_at hl 0 rfl) ?_
  refine lv_iload_n hx hb dL_reviews_3 rfl (lv_at hl 1 rfl) ?_
  refine mq_xcalli (vx_runV (As := [.int ua]) (rest := [.int 0, .ref (ad 38 0 0)]) ⟨hx, hb, hml, hown, hts⟩ (c_X7_reviews l hfl G A f ad S X S2 Y O T ua) (cwV 1 hts gL_reviews_X7_reviews rfl rfl rfl (by decide +kernel) ⟨Nat.le_of_ble_eq_true rfl, Nat.le_of_ble_eq_true rfl⟩) (mq_preV hK hZ hS hA hM (q := (RX7, TX7, 6)) y0 rfl (⟨hR, hO⟩) _) rfl rfl hl.1 rfl (lv_room (Nat.le_of_ble_eq_true rfl)) dL_reviews_4 ⟨Nat.le_of_ble_eq_true rfl, Nat.le_of_ble_eq_true rfl⟩) hS (fun E ce q9 g4 H locs p4 hM hS hce hcv hcl => ?_) (fun r4 g4 H locs p4 hM hS => ?_)
  · obtain ⟨rfl, hx9⟩ := p4
    obtain ⟨hc9, rfl⟩ := hx9
    refine vx_catch (name := "java/lang/IndexOutOfBoundsException") hown [] ⟨0, 9, 12, 21⟩ [] (ht9.trans rfl) (fun z hz => (by cases hz)) (by decide) (by decide) w0 (va_Nw.use rfl (mq_cast hZ (by decide))) hce hcv hcl ?_
    refine W.eq (g2 := F0 m 12 ls [.ref q9]) rfl ?_
    refine W.widen (k := 1) (n := 6) (Nat.le_of_ble_eq_true rfl) (Nat.le_of_ble_eq_true rfl) ?_
    refine lv_astore_n (lv' := [(3, .ref q9), (0, .ref (ad 0 0 0)), (1, .int ua), (2, .ref (ad 38 0 0))]) hx hb dL_reviews_12 rfl hl (by decide) rfl (fun ls hl => ?_)
    refine lv_iconst (v := 1) hx hb dL_reviews_13 (by decide) ?_
    exact mq_iret (v := 1) hx hb hr hlocks hM hS (⟨1, (spRev S ua).2, O, Prod.ext hc9 rfl, rfl, by decide, fun h => absurd h (by decide), hR⟩) dL_reviews_14
  refine W.widen (k := 1) (n := 6) (Nat.le_of_ble_eq_true rfl) (Nat.le_of_ble_eq_true rfl) ?_
  obtain ⟨rfl, e7⟩ := p4
  have hR9 := hR
  refine lv_i2l hx hb dL_reviews_7 rfl ?_
  refine mq_last hx hb hK hM hS y38 (vp_in_nI (n := 0) (by decide) (by decide)) dL_reviews_8 (fun f_1 H locs e_2 hM hS => ?_)
  rw [show (0 : Int32).toNatClampNeg = 0 from rfl] at e_2
  have h_3 : f_1 (ad 0 0 0) = some (.inr (12, [.ref (ad 1 0 0), .ref (ad 2 0 0), .ref (ad 3 0 0), .int (nI (aN S)), .int (nI (aL S)), .int (nI (aD S))])) := mq_n e_2 y0 (mq_neA y0 y38)
  have h_4 : f_1 (ad 38 0 0) = some (.inl (G.2 1, 1, .inr (.inl (vp_updL O.1 0 r4.toInt64)))) := mq_s e_2
  have hR8 := WR_o8 hR9 rfl e_2
  refine lv_goto (tgt := 15) hx hb dL_reviews_9 (by decide) ?_
  refine lv_iconst (v := 0) hx hb dL_reviews_15 (by decide) ?_
  exact mq_iret (v := 0) hx hb hr hlocks hM hS (⟨0, r4, _, e7, rfl, by decide, fun _ => rfl, hR8⟩) dL_reviews_16

set_option maxHeartbeats 4000000 in
set_option maxRecDepth 100000 in
theorem c_L_reviewAt (l : Launch) (hfl : l.stackTraces = false) (G : mq_G) (A : Nat → Prop) (f : mq_F) (ad : AD) (S : AT) (X : CX) (S2 : AT) (Y : MX) (O : OX) (T : Nat) (ua ub : Int32) : Met l yL_reviewAt wsL_reviewAt ({ frames := 9, cells := 2, slots := 12, locals := 165 } : Room) (lq_Pc G A f (WR G f ad S X S2 Y O ∧ cOK S X T ∧ T < 512) [.ref (ad 0 0 0), .int ua, .int ub, .ref (ad 38 0 0)]) (mq_Qi G A (fun r g => ∃ c9 v O9, spRevAt S ua ub = (c9, v) ∧ r = nI c9 ∧ c9 ≤ 3 ∧ (c9 = 0 → O9.1 0 = (v).toInt64) ∧ WR G g ad S X S2 Y O9)) 2 12 A := by
  refine lq_ofWH (cc := cL_reviewAt) (maxL := 5) (ret := (some .int)) (hh := [(0, 10, 13, 21), (0, 10, 17, 58)]) (by decide) rfl ?_
  intro p e s m args below meth c s₁ B hml hv
  obtain ⟨rfl, ⟨⟨hK, hZ, hM, hA⟩, hN⟩, hp⟩ := hv
  have hx := B.exec
  have hb := B.bytes
  have hr := B.returns
  have hts := atoms_spec (ws := wsL_reviewAt) B.pre
  have hown : s.vm.findClass RL = some m.cls := findClass_of_methodNamed B.named
  have ht9 := vx_table (x := yL_reviewAt) B (hts _ List.mem_cons_self)
  have hlocks := B.notSynchronized
  have hS : va_S A s.heap s.heap [] := va_S.rf
  have hl := lv_entry ([.ref (ad 0 0 0), .int ua, .int ub, .ref (ad 38 0 0)]) (n := 5) (Nat.le_of_ble_eq_true rfl)
  rw [lg_entry_eq]
  generalize (lg_sl ([.ref (ad 0 0 0), .int ua, .int ub, .ref (ad 38 0 0)]) ++ List.replicate (5 - (lg_sl ([.ref (ad 0 0 0), .int ua, .int ub, .ref (ad 38 0 0)])).length) Slot.unset).toArray = ls at hl ⊢
  have hl : lv_has ls 5 [(0, .ref (ad 0 0 0)), (1, .int ua), (2, .int ub), (3, .ref (ad 38 0 0))] := hl
  have w0 := hts (.classLink RL 21 "java/lang/IndexOutOfBoundsException") (List.mem_of_getElem? (i := 1) rfl)
  have w1 := hts (.classLink RL 58 "java/util/NoSuchElementException") (List.mem_of_getElem? (i := 2) rfl)
  obtain ⟨hR, hO, hT5⟩ := hp
  have y0 := hR.1 _ _ _ _ t0
  have y38 := hR.1 38 0 0 _ t38
  refine lv_aload_n hx hb dL_reviewAt_0 rfl (lv_at hl 3 rfl) ?_
  refine lv_iconst (v := 0) hx hb dL_reviewAt_1 (by decide) ?_
  refine lv_aload_n hx hb dL_reviewAt_2 rfl (lv_at hl 0 rfl) ?_
  refine lv_iload_n hx hb dL_reviewAt_3 rfl (lv_at hl 1 rfl) ?_
  refine lv_iload_n hx hb dL_reviewAt_4 rfl (lv_at hl 2 rfl) ?_
  refine mq_xcalli (vx_runV (As := [.int ua, .int ub]) (rest := [.int 0, .ref (ad 38 0 0)]) ⟨hx, hb, hml, hown, hts⟩ (c_X7_reviewAt l hfl G A f ad S X S2 Y O T ua ub) (cwV 2 hts gL_reviewAt_X7_reviewAt rfl rfl rfl (by decide +kernel) ⟨Nat.le_of_ble_eq_true rfl, Nat.le_of_ble_eq_true rfl⟩) (mq_preV hK hZ hS hA hM (q := (RX7, TX7, 6)) y0 rfl (⟨hR, hO⟩) _) rfl rfl hl.1 rfl (lv_room (Nat.le_of_ble_eq_true rfl)) dL_reviewAt_5 ⟨Nat.le_of_ble_eq_true rfl, Nat.le_of_ble_eq_true rfl⟩) hS (fun E ce q9 g5 H locs p5 hM hS hce hcv hcl => ?_) (fun r5 g5 H locs p5 hM hS => ?_)
  · obtain ⟨rfl, hx9⟩ := p5
    rcases hx9 with ⟨hc9, rfl⟩ | ⟨hc9, rfl⟩
    · refine vx_catch (name := "java/lang/IndexOutOfBoundsException") hown [] ⟨0, 10, 13, 21⟩ [⟨0, 10, 17, 58⟩] (ht9.trans rfl) (fun z hz => (by cases hz)) (by decide) (by decide) w0 (va_Nw.use rfl (mq_cast hZ (by decide))) hce hcv hcl ?_
      refine W.eq (g2 := F0 m 13 ls [.ref q9]) rfl ?_
      refine W.widen (k := 2) (n := 12) (Nat.le_of_ble_eq_true rfl) (Nat.le_of_ble_eq_true rfl) ?_
      refine lv_astore (lv' := [(4, .ref q9), (0, .ref (ad 0 0 0)), (1, .int ua), (2, .int ub), (3, .ref (ad 38 0 0))]) hx hb dL_reviewAt_13 hl (by decide) rfl (fun ls hl => ?_)
      refine lv_iconst (v := 1) hx hb dL_reviewAt_15 (by decide) ?_
      exact mq_iret (v := 1) hx hb hr hlocks hM hS (⟨1, (spRevAt S ua ub).2, O, Prod.ext hc9 rfl, rfl, by decide, fun h => absurd h (by decide), hR⟩) dL_reviewAt_16
    · refine vx_catch (name := "java/util/NoSuchElementException") hown [⟨0, 10, 13, 21⟩] ⟨0, 10, 17, 58⟩ [] (ht9.trans rfl) (fun z hz => (by rw [List.mem_singleton] at hz; subst hz; exact Or.inr ⟨by decide, "java/lang/IndexOutOfBoundsException", w0, hN ("java/util/NoSuchElementException", "java/lang/IndexOutOfBoundsException") (by decide)⟩)) (by decide) (by decide) w1 (va_Nw.use rfl (mq_cast hZ (by decide))) hce hcv hcl ?_
      refine W.eq (g2 := F0 m 17 ls [.ref q9]) rfl ?_
      refine W.widen (k := 2) (n := 12) (Nat.le_of_ble_eq_true rfl) (Nat.le_of_ble_eq_true rfl) ?_
      refine lv_astore (lv' := [(4, .ref q9), (0, .ref (ad 0 0 0)), (1, .int ua), (2, .int ub), (3, .ref (ad 38 0 0))]) hx hb dL_reviewAt_17 hl (by decide) rfl (fun ls hl => ?_)
      refine lv_iconst (v := 2) hx hb dL_reviewAt_19 (by decide) ?_
      exact mq_iret (v := 2) hx hb hr hlocks hM hS (⟨2, (spRevAt S ua ub).2, O, Prod.ext hc9 rfl, rfl, by decide, fun h => absurd h (by decide), hR⟩) dL_reviewAt_20
  refine W.widen (k := 2) (n := 12) (Nat.le_of_ble_eq_true rfl) (Nat.le_of_ble_eq_true rfl) ?_
  obtain ⟨rfl, e7⟩ := p5
  have hR9 := hR
  refine lv_i2l hx hb dL_reviewAt_8 rfl ?_
  refine mq_last hx hb hK hM hS y38 (vp_in_nI (n := 0) (by decide) (by decide)) dL_reviewAt_9 (fun f_1 H locs e_2 hM hS => ?_)
  rw [show (0 : Int32).toNatClampNeg = 0 from rfl] at e_2
  have h_3 : f_1 (ad 0 0 0) = some (.inr (12, [.ref (ad 1 0 0), .ref (ad 2 0 0), .ref (ad 3 0 0), .int (nI (aN S)), .int (nI (aL S)), .int (nI (aD S))])) := mq_n e_2 y0 (mq_neA y0 y38)
  have h_4 : f_1 (ad 38 0 0) = some (.inl (G.2 1, 1, .inr (.inl (vp_updL O.1 0 r5.toInt64)))) := mq_s e_2
  have hR8 := WR_o8 hR9 rfl e_2
  refine lv_goto (tgt := 21) hx hb dL_reviewAt_10 (by decide) ?_
  refine lv_iconst (v := 0) hx hb dL_reviewAt_21 (by decide) ?_
  exact mq_iret (v := 0) hx hb hr hlocks hM hS (⟨0, r5, _, e7, rfl, by decide, fun _ => rfl, hR8⟩) dL_reviewAt_22

set_option maxHeartbeats 4000000 in
set_option maxRecDepth 100000 in
theorem c_L_choose (l : Launch) (hfl : l.stackTraces = false) (G : mq_G) (A : Nat → Prop) (f : mq_F) (ad : AD) (S : AT) (X : CX) (S2 : AT) (Y : MX) (O : OX) (T : Nat) (ua : Int32) : Met l yL_choose wsL_choose ({ frames := 9, cells := 2, slots := 12, locals := 164 } : Room) (lq_Pc G A f (WR G f ad S X S2 Y O ∧ cOK S X T ∧ T < 512) [.ref (ad 0 0 0), .int ua, .ref (ad 38 0 0)]) (mq_Qi G A (fun r g => ∃ c9 v O9, spChs S ua = (c9, v) ∧ r = nI c9 ∧ c9 ≤ 3 ∧ (c9 = 0 → O9.1 0 = (v).toInt64) ∧ WR G g ad S X S2 Y O9)) 2 12 A := by
  refine lq_ofWH (cc := cL_choose) (maxL := 4) (ret := (some .int)) (hh := [(0, 9, 12, 21), (0, 9, 15, 58)]) (by decide) rfl ?_
  intro p e s m args below meth c s₁ B hml hv
  obtain ⟨rfl, ⟨⟨hK, hZ, hM, hA⟩, hN⟩, hp⟩ := hv
  have hx := B.exec
  have hb := B.bytes
  have hr := B.returns
  have hts := atoms_spec (ws := wsL_choose) B.pre
  have hown : s.vm.findClass RL = some m.cls := findClass_of_methodNamed B.named
  have ht9 := vx_table (x := yL_choose) B (hts _ List.mem_cons_self)
  have hlocks := B.notSynchronized
  have hS : va_S A s.heap s.heap [] := va_S.rf
  have hl := lv_entry ([.ref (ad 0 0 0), .int ua, .ref (ad 38 0 0)]) (n := 4) (Nat.le_of_ble_eq_true rfl)
  rw [lg_entry_eq]
  generalize (lg_sl ([.ref (ad 0 0 0), .int ua, .ref (ad 38 0 0)]) ++ List.replicate (4 - (lg_sl ([.ref (ad 0 0 0), .int ua, .ref (ad 38 0 0)])).length) Slot.unset).toArray = ls at hl ⊢
  have hl : lv_has ls 4 [(0, .ref (ad 0 0 0)), (1, .int ua), (2, .ref (ad 38 0 0))] := hl
  have w0 := hts (.classLink RL 21 "java/lang/IndexOutOfBoundsException") (List.mem_of_getElem? (i := 1) rfl)
  have w1 := hts (.classLink RL 58 "java/util/NoSuchElementException") (List.mem_of_getElem? (i := 2) rfl)
  obtain ⟨hR, hO, hT5⟩ := hp
  have y0 := hR.1 _ _ _ _ t0
  have y38 := hR.1 38 0 0 _ t38
  refine lv_aload_n hx hb dL_choose_0 rfl (lv_at hl 2 rfl) ?_
  refine lv_iconst (v := 0) hx hb dL_choose_1 (by decide) ?_
  refine lv_aload_n hx hb dL_choose_2 rfl (lv_at hl 0 rfl) ?_
  refine lv_iload_n hx hb dL_choose_3 rfl (lv_at hl 1 rfl) ?_
  refine mq_xcalli (vx_runV (As := [.int ua]) (rest := [.int 0, .ref (ad 38 0 0)]) ⟨hx, hb, hml, hown, hts⟩ (c_X7_choose l hfl G A f ad S X S2 Y O T ua) (cwV 1 hts gL_choose_X7_choose rfl rfl rfl (by decide +kernel) ⟨Nat.le_of_ble_eq_true rfl, Nat.le_of_ble_eq_true rfl⟩) (mq_preV hK hZ hS hA hM (q := (RX7, TX7, 6)) y0 rfl (⟨hR, hO⟩) _) rfl rfl hl.1 rfl (lv_room (Nat.le_of_ble_eq_true rfl)) dL_choose_4 ⟨Nat.le_of_ble_eq_true rfl, Nat.le_of_ble_eq_true rfl⟩) hS (fun E ce q9 g4 H locs p4 hM hS hce hcv hcl => ?_) (fun r4 g4 H locs p4 hM hS => ?_)
  · obtain ⟨rfl, hx9⟩ := p4
    rcases hx9 with ⟨hc9, rfl⟩ | ⟨hc9, rfl⟩
    · refine vx_catch (name := "java/lang/IndexOutOfBoundsException") hown [] ⟨0, 9, 12, 21⟩ [⟨0, 9, 15, 58⟩] (ht9.trans rfl) (fun z hz => (by cases hz)) (by decide) (by decide) w0 (va_Nw.use rfl (mq_cast hZ (by decide))) hce hcv hcl ?_
      refine W.eq (g2 := F0 m 12 ls [.ref q9]) rfl ?_
      refine W.widen (k := 2) (n := 12) (Nat.le_of_ble_eq_true rfl) (Nat.le_of_ble_eq_true rfl) ?_
      refine lv_astore_n (lv' := [(3, .ref q9), (0, .ref (ad 0 0 0)), (1, .int ua), (2, .ref (ad 38 0 0))]) hx hb dL_choose_12 rfl hl (by decide) rfl (fun ls hl => ?_)
      refine lv_iconst (v := 1) hx hb dL_choose_13 (by decide) ?_
      exact mq_iret (v := 1) hx hb hr hlocks hM hS (⟨1, (spChs S ua).2, O, Prod.ext hc9 rfl, rfl, by decide, fun h => absurd h (by decide), hR⟩) dL_choose_14
    · refine vx_catch (name := "java/util/NoSuchElementException") hown [⟨0, 9, 12, 21⟩] ⟨0, 9, 15, 58⟩ [] (ht9.trans rfl) (fun z hz => (by rw [List.mem_singleton] at hz; subst hz; exact Or.inr ⟨by decide, "java/lang/IndexOutOfBoundsException", w0, hN ("java/util/NoSuchElementException", "java/lang/IndexOutOfBoundsException") (by decide)⟩)) (by decide) (by decide) w1 (va_Nw.use rfl (mq_cast hZ (by decide))) hce hcv hcl ?_
      refine W.eq (g2 := F0 m 15 ls [.ref q9]) rfl ?_
      refine W.widen (k := 2) (n := 12) (Nat.le_of_ble_eq_true rfl) (Nat.le_of_ble_eq_true rfl) ?_
      refine lv_astore_n (lv' := [(3, .ref q9), (0, .ref (ad 0 0 0)), (1, .int ua), (2, .ref (ad 38 0 0))]) hx hb dL_choose_15 rfl hl (by decide) rfl (fun ls hl => ?_)
      refine lv_iconst (v := 2) hx hb dL_choose_16 (by decide) ?_
      exact mq_iret (v := 2) hx hb hr hlocks hM hS (⟨2, (spChs S ua).2, O, Prod.ext hc9 rfl, rfl, by decide, fun h => absurd h (by decide), hR⟩) dL_choose_17
  refine W.widen (k := 2) (n := 12) (Nat.le_of_ble_eq_true rfl) (Nat.le_of_ble_eq_true rfl) ?_
  obtain ⟨rfl, e7⟩ := p4
  have hR9 := hR
  refine lv_i2l hx hb dL_choose_7 rfl ?_
  refine mq_last hx hb hK hM hS y38 (vp_in_nI (n := 0) (by decide) (by decide)) dL_choose_8 (fun f_1 H locs e_2 hM hS => ?_)
  rw [show (0 : Int32).toNatClampNeg = 0 from rfl] at e_2
  have h_3 : f_1 (ad 0 0 0) = some (.inr (12, [.ref (ad 1 0 0), .ref (ad 2 0 0), .ref (ad 3 0 0), .int (nI (aN S)), .int (nI (aL S)), .int (nI (aD S))])) := mq_n e_2 y0 (mq_neA y0 y38)
  have h_4 : f_1 (ad 38 0 0) = some (.inl (G.2 1, 1, .inr (.inl (vp_updL O.1 0 r4.toInt64)))) := mq_s e_2
  have hR8 := WR_o8 hR9 rfl e_2
  refine lv_goto (tgt := 18) hx hb dL_choose_9 (by decide) ?_
  refine lv_iconst (v := 0) hx hb dL_choose_18 (by decide) ?_
  exact mq_iret (v := 0) hx hb hr hlocks hM hS (⟨0, r4, _, e7, rfl, by decide, fun _ => rfl, hR8⟩) dL_choose_19

set_option maxHeartbeats 4000000 in
set_option maxRecDepth 100000 in
theorem c_L_make (l : Launch) (hfl : l.stackTraces = false) (G : mq_G) (A : Nat → Prop) (f : mq_F) (ad : AD) (S : AT) (X : CX) (S2 : AT) (Y : MX) (O : OX) (T : Nat) (ua ub uc : Int32) : Met l yL_make wsL_make ({ frames := 9, cells := 6, slots := 27, locals := 168 } : Room) (lq_Pc G A f (WR G f ad S X S2 Y O ∧ cOK S X T ∧ T < 512) [.ref (ad 0 0 0), .int ua, .int ub, .int uc, .ref (ad 38 0 0)]) (mq_Qi G A (fun r g => ∃ c9 v S9 X9 O9 ad9, spMake S ua ub uc = (c9, v, S9) ∧ r = nI c9 ∧ c9 ≤ 3 ∧ (c9 = 0 → O9.1 0 = (v).toInt64) ∧ WR G g ad9 S9 X9 S2 Y O9 ∧ cOK S9 X9 (T + 1) ∧ adK ad ad9)) 6 27 A := by
  refine lq_ofWH (cc := cL_make) (maxL := 6) (ret := (some .int)) (hh := [(0, 12, 15, 21), (0, 12, 19, 13), (0, 12, 23, 15)]) (by decide) rfl ?_
  intro p e s m args below meth c s₁ B hml hv
  obtain ⟨rfl, ⟨⟨hK, hZ, hM, hA⟩, hN⟩, hp⟩ := hv
  have hx := B.exec
  have hb := B.bytes
  have hr := B.returns
  have hts := atoms_spec (ws := wsL_make) B.pre
  have hown : s.vm.findClass RL = some m.cls := findClass_of_methodNamed B.named
  have ht9 := vx_table (x := yL_make) B (hts _ List.mem_cons_self)
  have hlocks := B.notSynchronized
  have hS : va_S A s.heap s.heap [] := va_S.rf
  have hl := lv_entry ([.ref (ad 0 0 0), .int ua, .int ub, .int uc, .ref (ad 38 0 0)]) (n := 6) (Nat.le_of_ble_eq_true rfl)
  rw [lg_entry_eq]
  generalize (lg_sl ([.ref (ad 0 0 0), .int ua, .int ub, .int uc, .ref (ad 38 0 0)]) ++ List.replicate (6 - (lg_sl ([.ref (ad 0 0 0), .int ua, .int ub, .int uc, .ref (ad 38 0 0)])).length) Slot.unset).toArray = ls at hl ⊢
  have hl : lv_has ls 6 [(0, .ref (ad 0 0 0)), (1, .int ua), (2, .int ub), (3, .int uc), (4, .ref (ad 38 0 0))] := hl
  have w0 := hts (.classLink RL 21 "java/lang/IndexOutOfBoundsException") (List.mem_of_getElem? (i := 1) rfl)
  have w1 := hts (.classLink RL 13 "java/lang/IllegalArgumentException") (List.mem_of_getElem? (i := 2) rfl)
  have w2 := hts (.classLink RL 15 "java/lang/IllegalStateException") (List.mem_of_getElem? (i := 3) rfl)
  obtain ⟨hR, hO, hT5⟩ := hp
  have y0 := hR.1 _ _ _ _ t0
  have y38 := hR.1 38 0 0 _ t38
  refine lv_aload hx hb dL_make_0 (lv_at hl 4 rfl) ?_
  refine lv_iconst (v := 0) hx hb dL_make_2 (by decide) ?_
  refine lv_aload_n hx hb dL_make_3 rfl (lv_at hl 0 rfl) ?_
  refine lv_iload_n hx hb dL_make_4 rfl (lv_at hl 1 rfl) ?_
  refine lv_iload_n hx hb dL_make_5 rfl (lv_at hl 2 rfl) ?_
  refine lv_iload_n hx hb dL_make_6 rfl (lv_at hl 3 rfl) ?_
  refine mq_xcalli (vx_runV (As := [.int ua, .int ub, .int uc]) (rest := [.int 0, .ref (ad 38 0 0)]) ⟨hx, hb, hml, hown, hts⟩ (c_X7_make l hfl G A f ad S X S2 Y O T ua ub uc) (cwV 3 hts gL_make_X7_make rfl rfl rfl (by decide +kernel) ⟨Nat.le_of_ble_eq_true rfl, Nat.le_of_ble_eq_true rfl⟩) (mq_preV hK hZ hS hA hM (q := (RX7, TX7, 6)) y0 rfl (⟨hR, hO, hT5⟩) _) rfl rfl hl.1 rfl (lv_room (Nat.le_of_ble_eq_true rfl)) dL_make_7 ⟨Nat.le_of_ble_eq_true rfl, Nat.le_of_ble_eq_true rfl⟩) hS (fun E ce q9 g7 H locs p7 hM hS hce hcv hcl => ?_) (fun r7 g7 H locs p7 hM hS => ?_)
  · obtain ⟨rfl, hx9⟩ := p7
    rcases hx9 with ⟨hc9, rfl⟩ | ⟨hc9, rfl⟩ | ⟨hc9, rfl⟩
    · refine vx_catch (name := "java/lang/IndexOutOfBoundsException") hown [] ⟨0, 12, 15, 21⟩ [⟨0, 12, 19, 13⟩, ⟨0, 12, 23, 15⟩] (ht9.trans rfl) (fun z hz => (by cases hz)) (by decide) (by decide) w0 (va_Nw.use rfl (mq_cast hZ (by decide))) hce hcv hcl ?_
      refine W.eq (g2 := F0 m 15 ls [.ref q9]) rfl ?_
      refine W.widen (k := 6) (n := 27) (Nat.le_of_ble_eq_true rfl) (Nat.le_of_ble_eq_true rfl) ?_
      refine lv_astore (lv' := [(5, .ref q9), (0, .ref (ad 0 0 0)), (1, .int ua), (2, .int ub), (3, .int uc), (4, .ref (ad 38 0 0))]) hx hb dL_make_15 hl (by decide) rfl (fun ls hl => ?_)
      refine lv_iconst (v := 1) hx hb dL_make_17 (by decide) ?_
      exact mq_iret (v := 1) hx hb hr hlocks hM hS (⟨1, (spMake S ua ub uc).2.1, S, X, O, ad, Prod.ext hc9 (Prod.ext rfl (st_make (by rw [hc9]; decide))), rfl, by decide, fun h => absurd h (by decide), hR, ok_mono hO hT5, adK_id⟩) dL_make_18
    · refine vx_catch (name := "java/lang/IllegalArgumentException") hown [⟨0, 12, 15, 21⟩] ⟨0, 12, 19, 13⟩ [⟨0, 12, 23, 15⟩] (ht9.trans rfl) (fun z hz => (by rw [List.mem_singleton] at hz; subst hz; exact Or.inr ⟨by decide, "java/lang/IndexOutOfBoundsException", w0, hN ("java/lang/IllegalArgumentException", "java/lang/IndexOutOfBoundsException") (by decide)⟩)) (by decide) (by decide) w1 (va_Nw.use rfl (mq_cast hZ (by decide))) hce hcv hcl ?_
      refine W.eq (g2 := F0 m 19 ls [.ref q9]) rfl ?_
      refine W.widen (k := 6) (n := 27) (Nat.le_of_ble_eq_true rfl) (Nat.le_of_ble_eq_true rfl) ?_
      refine lv_astore (lv' := [(5, .ref q9), (0, .ref (ad 0 0 0)), (1, .int ua), (2, .int ub), (3, .int uc), (4, .ref (ad 38 0 0))]) hx hb dL_make_19 hl (by decide) rfl (fun ls hl => ?_)
      refine lv_iconst (v := 2) hx hb dL_make_21 (by decide) ?_
      exact mq_iret (v := 2) hx hb hr hlocks hM hS (⟨2, (spMake S ua ub uc).2.1, S, X, O, ad, Prod.ext hc9 (Prod.ext rfl (st_make (by rw [hc9]; decide))), rfl, by decide, fun h => absurd h (by decide), hR, ok_mono hO hT5, adK_id⟩) dL_make_22
    · refine vx_catch (name := "java/lang/IllegalStateException") hown [⟨0, 12, 15, 21⟩, ⟨0, 12, 19, 13⟩] ⟨0, 12, 23, 15⟩ [] (ht9.trans rfl) (fun z hz => (List.mem_cons.mp hz).elim (fun hz => by subst hz; exact Or.inr ⟨by decide, "java/lang/IndexOutOfBoundsException", w0, hN ("java/lang/IllegalStateException", "java/lang/IndexOutOfBoundsException") (by decide)⟩) (fun hz => by rw [List.mem_singleton] at hz; subst hz; exact Or.inr ⟨by decide, "java/lang/IllegalArgumentException", w1, hN ("java/lang/IllegalStateException", "java/lang/IllegalArgumentException") (by decide)⟩)) (by decide) (by decide) w2 (va_Nw.use rfl (mq_cast hZ (by decide))) hce hcv hcl ?_
      refine W.eq (g2 := F0 m 23 ls [.ref q9]) rfl ?_
      refine W.widen (k := 6) (n := 27) (Nat.le_of_ble_eq_true rfl) (Nat.le_of_ble_eq_true rfl) ?_
      refine lv_astore (lv' := [(5, .ref q9), (0, .ref (ad 0 0 0)), (1, .int ua), (2, .int ub), (3, .int uc), (4, .ref (ad 38 0 0))]) hx hb dL_make_23 hl (by decide) rfl (fun ls hl => ?_)
      refine lv_iconst (v := 3) hx hb dL_make_25 (by decide) ?_
      exact mq_iret (v := 3) hx hb hr hlocks hM hS (⟨3, (spMake S ua ub uc).2.1, S, X, O, ad, Prod.ext hc9 (Prod.ext rfl (st_make (by rw [hc9]; decide))), rfl, by decide, fun h => absurd h (by decide), hR, ok_mono hO hT5, adK_id⟩) dL_make_26
  refine W.widen (k := 6) (n := 27) (Nat.le_of_ble_eq_true rfl) (Nat.le_of_ble_eq_true rfl) ?_
  obtain ⟨S9, X9, ad9, e7, hR9, hO9, hk9⟩ := p7
  have z38 : g7 (ad 38 0 0) = some (.inl (G.2 1, 1, .inr (.inl O.1))) := by rw [← hk9.2.2.1]; exact hR9.1 38 0 0 _ t38
  refine lv_i2l hx hb dL_make_10 rfl ?_
  refine mq_last hx hb hK hM hS z38 (vp_in_nI (n := 0) (by decide) (by decide)) dL_make_11 (fun f_1 H locs e_2 hM hS => ?_)
  rw [show (0 : Int32).toNatClampNeg = 0 from rfl] at e_2
  have h_3 : f_1 (ad 38 0 0) = some (.inl (G.2 1, 1, .inr (.inl (vp_updL O.1 0 r7.toInt64)))) := mq_s e_2
  have hR8 := WR_o8 hR9 hk9.2.2.1 e_2
  refine lv_goto (tgt := 27) hx hb dL_make_12 (by decide) ?_
  refine lv_iconst (v := 0) hx hb dL_make_27 (by decide) ?_
  exact mq_iret (v := 0) hx hb hr hlocks hM hS (⟨0, r7, S9, X9, _, ad9, e7, rfl, by decide, fun _ => rfl, hR8, hO9, hk9⟩) dL_make_28

set_option maxHeartbeats 4000000 in
set_option maxRecDepth 100000 in
theorem c_L_part (l : Launch) (hfl : l.stackTraces = false) (G : mq_G) (A : Nat → Prop) (f : mq_F) (ad : AD) (S : AT) (X : CX) (S2 : AT) (Y : MX) (O : OX) (T : Nat) (ua ub : Int32) : Met l yL_part wsL_part ({ frames := 9, cells := 3, slots := 18, locals := 164 } : Room) (lq_Pc G A f (WR G f ad S X S2 Y O ∧ cOK S X T ∧ T < 512) [.ref (ad 0 0 0), .int ua, .int ub, .ref (ad 38 0 0)]) (mq_Qi G A (fun r g => ∃ c9 v O9, spPart S ua ub = (c9, v) ∧ r = nI c9 ∧ c9 ≤ 3 ∧ (c9 = 0 → O9.1 0 = (v).toInt64) ∧ WR G g ad S X S2 Y O9)) 3 18 A := by
  refine lq_ofWH (cc := cL_part) (maxL := 5) (ret := (some .int)) (hh := [(0, 10, 13, 21), (0, 10, 17, 13), (0, 10, 21, 15)]) (by decide) rfl ?_
  intro p e s m args below meth c s₁ B hml hv
  obtain ⟨rfl, ⟨⟨hK, hZ, hM, hA⟩, hN⟩, hp⟩ := hv
  have hx := B.exec
  have hb := B.bytes
  have hr := B.returns
  have hts := atoms_spec (ws := wsL_part) B.pre
  have hown : s.vm.findClass RL = some m.cls := findClass_of_methodNamed B.named
  have ht9 := vx_table (x := yL_part) B (hts _ List.mem_cons_self)
  have hlocks := B.notSynchronized
  have hS : va_S A s.heap s.heap [] := va_S.rf
  have hl := lv_entry ([.ref (ad 0 0 0), .int ua, .int ub, .ref (ad 38 0 0)]) (n := 5) (Nat.le_of_ble_eq_true rfl)
  rw [lg_entry_eq]
  generalize (lg_sl ([.ref (ad 0 0 0), .int ua, .int ub, .ref (ad 38 0 0)]) ++ List.replicate (5 - (lg_sl ([.ref (ad 0 0 0), .int ua, .int ub, .ref (ad 38 0 0)])).length) Slot.unset).toArray = ls at hl ⊢
  have hl : lv_has ls 5 [(0, .ref (ad 0 0 0)), (1, .int ua), (2, .int ub), (3, .ref (ad 38 0 0))] := hl
  have w0 := hts (.classLink RL 21 "java/lang/IndexOutOfBoundsException") (List.mem_of_getElem? (i := 1) rfl)
  have w1 := hts (.classLink RL 13 "java/lang/IllegalArgumentException") (List.mem_of_getElem? (i := 2) rfl)
  have w2 := hts (.classLink RL 15 "java/lang/IllegalStateException") (List.mem_of_getElem? (i := 3) rfl)
  obtain ⟨hR, hO, hT5⟩ := hp
  have y0 := hR.1 _ _ _ _ t0
  have y38 := hR.1 38 0 0 _ t38
  refine lv_aload_n hx hb dL_part_0 rfl (lv_at hl 3 rfl) ?_
  refine lv_iconst (v := 0) hx hb dL_part_1 (by decide) ?_
  refine lv_aload_n hx hb dL_part_2 rfl (lv_at hl 0 rfl) ?_
  refine lv_iload_n hx hb dL_part_3 rfl (lv_at hl 1 rfl) ?_
  refine lv_iload_n hx hb dL_part_4 rfl (lv_at hl 2 rfl) ?_
  refine mq_xcalli (vx_runV (As := [.int ua, .int ub]) (rest := [.int 0, .ref (ad 38 0 0)]) ⟨hx, hb, hml, hown, hts⟩ (c_X7_part l hfl G A f ad S X S2 Y O T ua ub) (cwV 2 hts gL_part_X7_part rfl rfl rfl (by decide +kernel) ⟨Nat.le_of_ble_eq_true rfl, Nat.le_of_ble_eq_true rfl⟩) (mq_preV hK hZ hS hA hM (q := (RX7, TX7, 6)) y0 rfl (⟨hR, hO⟩) _) rfl rfl hl.1 rfl (lv_room (Nat.le_of_ble_eq_true rfl)) dL_part_5 ⟨Nat.le_of_ble_eq_true rfl, Nat.le_of_ble_eq_true rfl⟩) hS (fun E ce q9 g5 H locs p5 hM hS hce hcv hcl => ?_) (fun r5 g5 H locs p5 hM hS => ?_)
  · obtain ⟨rfl, hx9⟩ := p5
    rcases hx9 with ⟨hc9, rfl⟩ | ⟨hc9, rfl⟩ | ⟨hc9, rfl⟩
    · refine vx_catch (name := "java/lang/IndexOutOfBoundsException") hown [] ⟨0, 10, 13, 21⟩ [⟨0, 10, 17, 13⟩, ⟨0, 10, 21, 15⟩] (ht9.trans rfl) (fun z hz => (by cases hz)) (by decide) (by decide) w0 (va_Nw.use rfl (mq_cast hZ (by decide))) hce hcv hcl ?_
      refine W.eq (g2 := F0 m 13 ls [.ref q9]) rfl ?_
      refine W.widen (k := 3) (n := 18) (Nat.le_of_ble_eq_true rfl) (Nat.le_of_ble_eq_true rfl) ?_
      refine lv_astore (lv' := [(4, .ref q9), (0, .ref (ad 0 0 0)), (1, .int ua), (2, .int ub), (3, .ref (ad 38 0 0))]) hx hb dL_part_13 hl (by decide) rfl (fun ls hl => ?_)
      refine lv_iconst (v := 1) hx hb dL_part_15 (by decide) ?_
      exact mq_iret (v := 1) hx hb hr hlocks hM hS (⟨1, (spPart S ua ub).2, O, Prod.ext hc9 rfl, rfl, by decide, fun h => absurd h (by decide), hR⟩) dL_part_16
    · refine vx_catch (name := "java/lang/IllegalArgumentException") hown [⟨0, 10, 13, 21⟩] ⟨0, 10, 17, 13⟩ [⟨0, 10, 21, 15⟩] (ht9.trans rfl) (fun z hz => (by rw [List.mem_singleton] at hz; subst hz; exact Or.inr ⟨by decide, "java/lang/IndexOutOfBoundsException", w0, hN ("java/lang/IllegalArgumentException", "java/lang/IndexOutOfBoundsException") (by decide)⟩)) (by decide) (by decide) w1 (va_Nw.use rfl (mq_cast hZ (by decide))) hce hcv hcl ?_
      refine W.eq (g2 := F0 m 17 ls [.ref q9]) rfl ?_
      refine W.widen (k := 3) (n := 18) (Nat.le_of_ble_eq_true rfl) (Nat.le_of_ble_eq_true rfl) ?_
      refine lv_astore (lv' := [(4, .ref q9), (0, .ref (ad 0 0 0)), (1, .int ua), (2, .int ub), (3, .ref (ad 38 0 0))]) hx hb dL_part_17 hl (by decide) rfl (fun ls hl => ?_)
      refine lv_iconst (v := 2) hx hb dL_part_19 (by decide) ?_
      exact mq_iret (v := 2) hx hb hr hlocks hM hS (⟨2, (spPart S ua ub).2, O, Prod.ext hc9 rfl, rfl, by decide, fun h => absurd h (by decide), hR⟩) dL_part_20
    · refine vx_catch (name := "java/lang/IllegalStateException") hown [⟨0, 10, 13, 21⟩, ⟨0, 10, 17, 13⟩] ⟨0, 10, 21, 15⟩ [] (ht9.trans rfl) (fun z hz => (List.mem_cons.mp hz).elim (fun hz => by subst hz; exact Or.inr ⟨by decide, "java/lang/IndexOutOfBoundsException", w0, hN ("java/lang/IllegalStateException", "java/lang/IndexOutOfBoundsException") (by decide)⟩) (fun hz => by rw [List.mem_singleton] at hz; subst hz; exact Or.inr ⟨by decide, "java/lang/IllegalArgumentException", w1, hN ("java/lang/IllegalStateException", "java/lang/IllegalArgumentException") (by decide)⟩)) (by decide) (by decide) w2 (va_Nw.use rfl (mq_cast hZ (by decide))) hce hcv hcl ?_
      refine W.eq (g2 := F0 m 21 ls [.ref q9]) rfl ?_
      refine W.widen (k := 3) (n := 18) (Nat.le_of_ble_eq_true rfl) (Nat.le_of_ble_eq_true rfl) ?_
      refine lv_astore (lv' := [(4, .ref q9), (0, .ref (ad 0 0 0)), (1, .int ua), (2, .int ub), (3, .ref (ad 38 0 0))]) hx hb dL_part_21 hl (by decide) rfl (fun ls hl => ?_)
      refine lv_iconst (v := 3) hx hb dL_part_23 (by decide) ?_
      exact mq_iret (v := 3) hx hb hr hlocks hM hS (⟨3, (spPart S ua ub).2, O, Prod.ext hc9 rfl, rfl, by decide, fun h => absurd h (by decide), hR⟩) dL_part_24
  refine W.widen (k := 3) (n := 18) (Nat.le_of_ble_eq_true rfl) (Nat.le_of_ble_eq_true rfl) ?_
  obtain ⟨rfl, e7⟩ := p5
  have hR9 := hR
  refine lv_i2l hx hb dL_part_8 rfl ?_
  refine mq_last hx hb hK hM hS y38 (vp_in_nI (n := 0) (by decide) (by decide)) dL_part_9 (fun f_1 H locs e_2 hM hS => ?_)
  rw [show (0 : Int32).toNatClampNeg = 0 from rfl] at e_2
  have h_3 : f_1 (ad 0 0 0) = some (.inr (12, [.ref (ad 1 0 0), .ref (ad 2 0 0), .ref (ad 3 0 0), .int (nI (aN S)), .int (nI (aL S)), .int (nI (aD S))])) := mq_n e_2 y0 (mq_neA y0 y38)
  have h_4 : f_1 (ad 38 0 0) = some (.inl (G.2 1, 1, .inr (.inl (vp_updL O.1 0 r5.toInt64)))) := mq_s e_2
  have hR8 := WR_o8 hR9 rfl e_2
  refine lv_goto (tgt := 25) hx hb dL_part_10 (by decide) ?_
  refine lv_iconst (v := 0) hx hb dL_part_25 (by decide) ?_
  exact mq_iret (v := 0) hx hb hr hlocks hM hS (⟨0, r5, _, e7, rfl, by decide, fun _ => rfl, hR8⟩) dL_part_26

set_option maxHeartbeats 4000000 in
set_option maxRecDepth 100000 in
theorem c_L_step (l : Launch) (hfl : l.stackTraces = false) (G : mq_G) (A : Nat → Prop) (f : mq_F) (ad : AD) (S : AT) (X : CX) (S2 : AT) (Y : MX) (O : OX) (T : Nat) (ua va vb vc vd : Int32) : Met l yL_step wsL_step ({ frames := 9, cells := 9, slots := 42, locals := 169 } : Room) (lq_Pc G A f (WR G f ad S X S2 Y O ∧ cOK S X T ∧ T < 512) [.ref (ad 0 0 0), .int ua, .int va, .int vb, .int vc, .int vd, .ref (ad 38 0 0)]) (mq_Qi G A (fun r g => ∃ c9 v S9 X9 O9 ad9, spStep S ua va vb vc vd = (c9, v, S9) ∧ r = nI c9 ∧ c9 ≤ 3 ∧ (c9 = 0 → O9.1 0 = (v).toInt64) ∧ WR G g ad9 S9 X9 S2 Y O9 ∧ cOK S9 X9 (T + 1) ∧ adK ad ad9)) 9 42 A := by
  refine lq_ofWH (cc := cL_step) (maxL := 8) (ret := (some .int)) (hh := [(0, 16, 19, 21), (0, 16, 23, 13), (0, 16, 27, 15)]) (by decide) rfl ?_
  intro p e s m args below meth c s₁ B hml hv
  obtain ⟨rfl, ⟨⟨hK, hZ, hM, hA⟩, hN⟩, hp⟩ := hv
  have hx := B.exec
  have hb := B.bytes
  have hr := B.returns
  have hts := atoms_spec (ws := wsL_step) B.pre
  have hown : s.vm.findClass RL = some m.cls := findClass_of_methodNamed B.named
  have ht9 := vx_table (x := yL_step) B (hts _ List.mem_cons_self)
  have hlocks := B.notSynchronized
  have hS : va_S A s.heap s.heap [] := va_S.rf
  have hl := lv_entry ([.ref (ad 0 0 0), .int ua, .int va, .int vb, .int vc, .int vd, .ref (ad 38 0 0)]) (n := 8) (Nat.le_of_ble_eq_true rfl)
  rw [lg_entry_eq]
  generalize (lg_sl ([.ref (ad 0 0 0), .int ua, .int va, .int vb, .int vc, .int vd, .ref (ad 38 0 0)]) ++ List.replicate (8 - (lg_sl ([.ref (ad 0 0 0), .int ua, .int va, .int vb, .int vc, .int vd, .ref (ad 38 0 0)])).length) Slot.unset).toArray = ls at hl ⊢
  have hl : lv_has ls 8 [(0, .ref (ad 0 0 0)), (1, .int ua), (2, .int va), (3, .int vb), (4, .int vc), (5, .int vd), (6, .ref (ad 38 0 0))] := hl
  have w0 := hts (.classLink RL 21 "java/lang/IndexOutOfBoundsException") (List.mem_of_getElem? (i := 1) rfl)
  have w1 := hts (.classLink RL 13 "java/lang/IllegalArgumentException") (List.mem_of_getElem? (i := 2) rfl)
  have w2 := hts (.classLink RL 15 "java/lang/IllegalStateException") (List.mem_of_getElem? (i := 3) rfl)
  obtain ⟨hR, hO, hT5⟩ := hp
  have y0 := hR.1 _ _ _ _ t0
  have y38 := hR.1 38 0 0 _ t38
  refine lv_aload hx hb dL_step_0 (lv_at hl 6 rfl) ?_
  refine lv_iconst (v := 0) hx hb dL_step_2 (by decide) ?_
  refine lv_aload_n hx hb dL_step_3 rfl (lv_at hl 0 rfl) ?_
  refine lv_iload_n hx hb dL_step_4 rfl (lv_at hl 1 rfl) ?_
  refine lv_iload_n hx hb dL_step_5 rfl (lv_at hl 2 rfl) ?_
  refine lv_iload_n hx hb dL_step_6 rfl (lv_at hl 3 rfl) ?_
  refine lv_iload hx hb dL_step_7 (lv_at hl 4 rfl) ?_
  refine lv_iload hx hb dL_step_9 (lv_at hl 5 rfl) ?_
  refine mq_xcalli (vx_runV (As := [.int ua, .int va, .int vb, .int vc, .int vd]) (rest := [.int 0, .ref (ad 38 0 0)]) ⟨hx, hb, hml, hown, hts⟩ (c_X7_step l hfl G A f ad S X S2 Y O T ua va vb vc vd) (cwV 5 hts gL_step_X7_step rfl rfl rfl (by decide +kernel) ⟨Nat.le_of_ble_eq_true rfl, Nat.le_of_ble_eq_true rfl⟩) (mq_preV hK hZ hS hA hM (q := (RX7, TX7, 6)) y0 rfl (⟨hR, hO, hT5⟩) _) rfl rfl hl.1 rfl (lv_room (Nat.le_of_ble_eq_true rfl)) dL_step_11 ⟨Nat.le_of_ble_eq_true rfl, Nat.le_of_ble_eq_true rfl⟩) hS (fun E ce q9 g11 H locs p11 hM hS hce hcv hcl => ?_) (fun r11 g11 H locs p11 hM hS => ?_)
  · obtain ⟨rfl, hx9⟩ := p11
    rcases hx9 with ⟨hc9, rfl⟩ | ⟨hc9, rfl⟩ | ⟨hc9, rfl⟩
    · refine vx_catch (name := "java/lang/IndexOutOfBoundsException") hown [] ⟨0, 16, 19, 21⟩ [⟨0, 16, 23, 13⟩, ⟨0, 16, 27, 15⟩] (ht9.trans rfl) (fun z hz => (by cases hz)) (by decide) (by decide) w0 (va_Nw.use rfl (mq_cast hZ (by decide))) hce hcv hcl ?_
      refine W.eq (g2 := F0 m 19 ls [.ref q9]) rfl ?_
      refine W.widen (k := 9) (n := 42) (Nat.le_of_ble_eq_true rfl) (Nat.le_of_ble_eq_true rfl) ?_
      refine lv_astore (lv' := [(7, .ref q9), (0, .ref (ad 0 0 0)), (1, .int ua), (2, .int va), (3, .int vb), (4, .int vc), (5, .int vd), (6, .ref (ad 38 0 0))]) hx hb dL_step_19 hl (by decide) rfl (fun ls hl => ?_)
      refine lv_iconst (v := 1) hx hb dL_step_21 (by decide) ?_
      exact mq_iret (v := 1) hx hb hr hlocks hM hS (⟨1, (spStep S ua va vb vc vd).2.1, S, X, O, ad, Prod.ext hc9 (Prod.ext rfl (st_step (by rw [hc9]; decide))), rfl, by decide, fun h => absurd h (by decide), hR, ok_mono hO hT5, adK_id⟩) dL_step_22
    · refine vx_catch (name := "java/lang/IllegalArgumentException") hown [⟨0, 16, 19, 21⟩] ⟨0, 16, 23, 13⟩ [⟨0, 16, 27, 15⟩] (ht9.trans rfl) (fun z hz => (by rw [List.mem_singleton] at hz; subst hz; exact Or.inr ⟨by decide, "java/lang/IndexOutOfBoundsException", w0, hN ("java/lang/IllegalArgumentException", "java/lang/IndexOutOfBoundsException") (by decide)⟩)) (by decide) (by decide) w1 (va_Nw.use rfl (mq_cast hZ (by decide))) hce hcv hcl ?_
      refine W.eq (g2 := F0 m 23 ls [.ref q9]) rfl ?_
      refine W.widen (k := 9) (n := 42) (Nat.le_of_ble_eq_true rfl) (Nat.le_of_ble_eq_true rfl) ?_
      refine lv_astore (lv' := [(7, .ref q9), (0, .ref (ad 0 0 0)), (1, .int ua), (2, .int va), (3, .int vb), (4, .int vc), (5, .int vd), (6, .ref (ad 38 0 0))]) hx hb dL_step_23 hl (by decide) rfl (fun ls hl => ?_)
      refine lv_iconst (v := 2) hx hb dL_step_25 (by decide) ?_
      exact mq_iret (v := 2) hx hb hr hlocks hM hS (⟨2, (spStep S ua va vb vc vd).2.1, S, X, O, ad, Prod.ext hc9 (Prod.ext rfl (st_step (by rw [hc9]; decide))), rfl, by decide, fun h => absurd h (by decide), hR, ok_mono hO hT5, adK_id⟩) dL_step_26
    · refine vx_catch (name := "java/lang/IllegalStateException") hown [⟨0, 16, 19, 21⟩, ⟨0, 16, 23, 13⟩] ⟨0, 16, 27, 15⟩ [] (ht9.trans rfl) (fun z hz => (List.mem_cons.mp hz).elim (fun hz => by subst hz; exact Or.inr ⟨by decide, "java/lang/IndexOutOfBoundsException", w0, hN ("java/lang/IllegalStateException", "java/lang/IndexOutOfBoundsException") (by decide)⟩) (fun hz => by rw [List.mem_singleton] at hz; subst hz; exact Or.inr ⟨by decide, "java/lang/IllegalArgumentException", w1, hN ("java/lang/IllegalStateException", "java/lang/IllegalArgumentException") (by decide)⟩)) (by decide) (by decide) w2 (va_Nw.use rfl (mq_cast hZ (by decide))) hce hcv hcl ?_
      refine W.eq (g2 := F0 m 27 ls [.ref q9]) rfl ?_
      refine W.widen (k := 9) (n := 42) (Nat.le_of_ble_eq_true rfl) (Nat.le_of_ble_eq_true rfl) ?_
      refine lv_astore (lv' := [(7, .ref q9), (0, .ref (ad 0 0 0)), (1, .int ua), (2, .int va), (3, .int vb), (4, .int vc), (5, .int vd), (6, .ref (ad 38 0 0))]) hx hb dL_step_27 hl (by decide) rfl (fun ls hl => ?_)
      refine lv_iconst (v := 3) hx hb dL_step_29 (by decide) ?_
      exact mq_iret (v := 3) hx hb hr hlocks hM hS (⟨3, (spStep S ua va vb vc vd).2.1, S, X, O, ad, Prod.ext hc9 (Prod.ext rfl (st_step (by rw [hc9]; decide))), rfl, by decide, fun h => absurd h (by decide), hR, ok_mono hO hT5, adK_id⟩) dL_step_30
  refine W.widen (k := 9) (n := 42) (Nat.le_of_ble_eq_true rfl) (Nat.le_of_ble_eq_true rfl) ?_
  obtain ⟨S9, X9, ad9, e7, hR9, hO9, hk9⟩ := p11
  have z38 : g11 (ad 38 0 0) = some (.inl (G.2 1, 1, .inr (.inl O.1))) := by rw [← hk9.2.2.1]; exact hR9.1 38 0 0 _ t38
  refine lv_i2l hx hb dL_step_14 rfl ?_
  refine mq_last hx hb hK hM hS z38 (vp_in_nI (n := 0) (by decide) (by decide)) dL_step_15 (fun f_1 H locs e_2 hM hS => ?_)
  rw [show (0 : Int32).toNatClampNeg = 0 from rfl] at e_2
  have h_3 : f_1 (ad 38 0 0) = some (.inl (G.2 1, 1, .inr (.inl (vp_updL O.1 0 r11.toInt64)))) := mq_s e_2
  have hR8 := WR_o8 hR9 hk9.2.2.1 e_2
  refine lv_goto (tgt := 31) hx hb dL_step_16 (by decide) ?_
  refine lv_iconst (v := 0) hx hb dL_step_31 (by decide) ?_
  exact mq_iret (v := 0) hx hb hr hlocks hM hS (⟨0, r11, S9, X9, _, ad9, e7, rfl, by decide, fun _ => rfl, hR8, hO9, hk9⟩) dL_step_32

set_option maxHeartbeats 4000000 in
set_option maxRecDepth 100000 in
theorem c_L_explain (l : Launch) (hfl : l.stackTraces = false) (G : mq_G) (A : Nat → Prop) (f : mq_F) (ad : AD) (S : AT) (X : CX) (S2 : AT) (Y : MX) (O : OX) (T : Nat) (ua : Int32) : Met l yL_explain wsL_explain ({ frames := 11, cells := 3, slots := 18, locals := 248 } : Room) (lq_Pc G A f (WR G f ad S X S2 Y O ∧ cOK S X T ∧ T < 512) [.ref (ad 0 0 0), .int ua, .ref (ad 38 0 0)]) (mq_Qi G A (fun r g => ∃ c9 v O9 X9, spExpl S ua = (c9, v) ∧ r = nI c9 ∧ c9 ≤ 3 ∧ (c9 = 0 → O9.1 0 = (v).toInt64) ∧ WR G g ad S X9 S2 Y O9 ∧ cOK S X9 (T + 1))) 3 18 A := by
  refine lq_ofWH (cc := cL_explain) (maxL := 4) (ret := (some .int)) (hh := [(0, 9, 12, 21), (0, 9, 15, 15), (0, 9, 18, 58)]) (by decide) rfl ?_
  intro p e s m args below meth c s₁ B hml hv
  obtain ⟨rfl, ⟨⟨hK, hZ, hM, hA⟩, hN⟩, hp⟩ := hv
  have hx := B.exec
  have hb := B.bytes
  have hr := B.returns
  have hts := atoms_spec (ws := wsL_explain) B.pre
  have hown : s.vm.findClass RL = some m.cls := findClass_of_methodNamed B.named
  have ht9 := vx_table (x := yL_explain) B (hts _ List.mem_cons_self)
  have hlocks := B.notSynchronized
  have hS : va_S A s.heap s.heap [] := va_S.rf
  have hl := lv_entry ([.ref (ad 0 0 0), .int ua, .ref (ad 38 0 0)]) (n := 4) (Nat.le_of_ble_eq_true rfl)
  rw [lg_entry_eq]
  generalize (lg_sl ([.ref (ad 0 0 0), .int ua, .ref (ad 38 0 0)]) ++ List.replicate (4 - (lg_sl ([.ref (ad 0 0 0), .int ua, .ref (ad 38 0 0)])).length) Slot.unset).toArray = ls at hl ⊢
  have hl : lv_has ls 4 [(0, .ref (ad 0 0 0)), (1, .int ua), (2, .ref (ad 38 0 0))] := hl
  have w0 := hts (.classLink RL 21 "java/lang/IndexOutOfBoundsException") (List.mem_of_getElem? (i := 1) rfl)
  have w1 := hts (.classLink RL 15 "java/lang/IllegalStateException") (List.mem_of_getElem? (i := 2) rfl)
  have w2 := hts (.classLink RL 58 "java/util/NoSuchElementException") (List.mem_of_getElem? (i := 3) rfl)
  obtain ⟨hR, hO, hT5⟩ := hp
  have y0 := hR.1 _ _ _ _ t0
  have y38 := hR.1 38 0 0 _ t38
  refine lv_aload_n hx hb dL_explain_0 rfl (lv_at hl 2 rfl) ?_
  refine lv_iconst (v := 0) hx hb dL_explain_1 (by decide) ?_
  refine lv_aload_n hx hb dL_explain_2 rfl (lv_at hl 0 rfl) ?_
  refine lv_iload_n hx hb dL_explain_3 rfl (lv_at hl 1 rfl) ?_
  refine mq_xcalli (vx_runV (As := [.int ua]) (rest := [.int 0, .ref (ad 38 0 0)]) ⟨hx, hb, hml, hown, hts⟩ (c_X7_explain l hfl G A f ad S X S2 Y O T ua) (cwV 1 hts gL_explain_X7_explain rfl rfl rfl (by decide +kernel) ⟨Nat.le_of_ble_eq_true rfl, Nat.le_of_ble_eq_true rfl⟩) (mq_preV hK hZ hS hA hM (q := (RX7, TX7, 6)) y0 rfl (⟨hR, hO, hT5⟩) _) rfl rfl hl.1 rfl (lv_room (Nat.le_of_ble_eq_true rfl)) dL_explain_4 ⟨Nat.le_of_ble_eq_true rfl, Nat.le_of_ble_eq_true rfl⟩) hS (fun E ce q9 g4 H locs p4 hM hS hce hcv hcl => ?_) (fun r4 g4 H locs p4 hM hS => ?_)
  · obtain ⟨hx9, X9, hR9, hO9⟩ := p4
    rcases hx9 with ⟨hc9, rfl⟩ | ⟨hc9, rfl⟩ | ⟨hc9, rfl⟩
    · refine vx_catch (name := "java/lang/IndexOutOfBoundsException") hown [] ⟨0, 9, 12, 21⟩ [⟨0, 9, 15, 15⟩, ⟨0, 9, 18, 58⟩] (ht9.trans rfl) (fun z hz => (by cases hz)) (by decide) (by decide) w0 (va_Nw.use rfl (mq_cast hZ (by decide))) hce hcv hcl ?_
      refine W.eq (g2 := F0 m 12 ls [.ref q9]) rfl ?_
      refine W.widen (k := 3) (n := 18) (Nat.le_of_ble_eq_true rfl) (Nat.le_of_ble_eq_true rfl) ?_
      refine lv_astore_n (lv' := [(3, .ref q9), (0, .ref (ad 0 0 0)), (1, .int ua), (2, .ref (ad 38 0 0))]) hx hb dL_explain_12 rfl hl (by decide) rfl (fun ls hl => ?_)
      refine lv_iconst (v := 1) hx hb dL_explain_13 (by decide) ?_
      exact mq_iret (v := 1) hx hb hr hlocks hM hS (⟨1, (spExpl S ua).2, O, X9, Prod.ext hc9 rfl, rfl, by decide, fun h => absurd h (by decide), hR9, hO9⟩) dL_explain_14
    · refine vx_catch (name := "java/lang/IllegalStateException") hown [⟨0, 9, 12, 21⟩] ⟨0, 9, 15, 15⟩ [⟨0, 9, 18, 58⟩] (ht9.trans rfl) (fun z hz => (by rw [List.mem_singleton] at hz; subst hz; exact Or.inr ⟨by decide, "java/lang/IndexOutOfBoundsException", w0, hN ("java/lang/IllegalStateException", "java/lang/IndexOutOfBoundsException") (by decide)⟩)) (by decide) (by decide) w1 (va_Nw.use rfl (mq_cast hZ (by decide))) hce hcv hcl ?_
      refine W.eq (g2 := F0 m 15 ls [.ref q9]) rfl ?_
      refine W.widen (k := 3) (n := 18) (Nat.le_of_ble_eq_true rfl) (Nat.le_of_ble_eq_true rfl) ?_
      refine lv_astore_n (lv' := [(3, .ref q9), (0, .ref (ad 0 0 0)), (1, .int ua), (2, .ref (ad 38 0 0))]) hx hb dL_explain_15 rfl hl (by decide) rfl (fun ls hl => ?_)
      refine lv_iconst (v := 2) hx hb dL_explain_16 (by decide) ?_
      exact mq_iret (v := 2) hx hb hr hlocks hM hS (⟨2, (spExpl S ua).2, O, X9, Prod.ext hc9 rfl, rfl, by decide, fun h => absurd h (by decide), hR9, hO9⟩) dL_explain_17
    · refine vx_catch (name := "java/util/NoSuchElementException") hown [⟨0, 9, 12, 21⟩, ⟨0, 9, 15, 15⟩] ⟨0, 9, 18, 58⟩ [] (ht9.trans rfl) (fun z hz => (List.mem_cons.mp hz).elim (fun hz => by subst hz; exact Or.inr ⟨by decide, "java/lang/IndexOutOfBoundsException", w0, hN ("java/util/NoSuchElementException", "java/lang/IndexOutOfBoundsException") (by decide)⟩) (fun hz => by rw [List.mem_singleton] at hz; subst hz; exact Or.inr ⟨by decide, "java/lang/IllegalStateException", w1, hN ("java/util/NoSuchElementException", "java/lang/IllegalStateException") (by decide)⟩)) (by decide) (by decide) w2 (va_Nw.use rfl (mq_cast hZ (by decide))) hce hcv hcl ?_
      refine W.eq (g2 := F0 m 18 ls [.ref q9]) rfl ?_
      refine W.widen (k := 3) (n := 18) (Nat.le_of_ble_eq_true rfl) (Nat.le_of_ble_eq_true rfl) ?_
      refine lv_astore_n (lv' := [(3, .ref q9), (0, .ref (ad 0 0 0)), (1, .int ua), (2, .ref (ad 38 0 0))]) hx hb dL_explain_18 rfl hl (by decide) rfl (fun ls hl => ?_)
      refine lv_iconst (v := 3) hx hb dL_explain_19 (by decide) ?_
      exact mq_iret (v := 3) hx hb hr hlocks hM hS (⟨3, (spExpl S ua).2, O, X9, Prod.ext hc9 rfl, rfl, by decide, fun h => absurd h (by decide), hR9, hO9⟩) dL_explain_20
  refine W.widen (k := 3) (n := 18) (Nat.le_of_ble_eq_true rfl) (Nat.le_of_ble_eq_true rfl) ?_
  obtain ⟨X9, e7, hR9, hO9⟩ := p4
  have z38 := hR9.1 38 0 0 _ t38
  refine lv_i2l hx hb dL_explain_7 rfl ?_
  refine mq_last hx hb hK hM hS z38 (vp_in_nI (n := 0) (by decide) (by decide)) dL_explain_8 (fun f_1 H locs e_2 hM hS => ?_)
  rw [show (0 : Int32).toNatClampNeg = 0 from rfl] at e_2
  have h_3 : f_1 (ad 38 0 0) = some (.inl (G.2 1, 1, .inr (.inl (vp_updL O.1 0 r4.toInt64)))) := mq_s e_2
  have hR8 := WR_o8 hR9 rfl e_2
  refine lv_goto (tgt := 21) hx hb dL_explain_9 (by decide) ?_
  refine lv_iconst (v := 0) hx hb dL_explain_21 (by decide) ?_
  exact mq_iret (v := 0) hx hb hr hlocks hM hS (⟨0, r4, _, X9, e7, rfl, by decide, fun _ => rfl, hR8, hO9⟩) dL_explain_22

set_option maxHeartbeats 4000000 in
set_option maxRecDepth 100000 in
theorem c_L_hint (l : Launch) (hfl : l.stackTraces = false) (G : mq_G) (A : Nat → Prop) (f : mq_F) (ad : AD) (S : AT) (X : CX) (S2 : AT) (Y : MX) (O : OX) (T : Nat) (ua : Int32) : Met l yL_hint wsL_hint ({ frames := 9, cells := 5, slots := 24, locals := 163 } : Room) (lq_Pc G A f (WR G f ad S X S2 Y O ∧ cOK S X T ∧ T < 512) [.ref (ad 0 0 0), .int ua, .ref (ad 38 0 0)]) (mq_Qi G A (fun r g => ∃ c9 v S9 X9 O9 ad9, spHint S ua = (c9, v, S9) ∧ r = nI c9 ∧ c9 ≤ 3 ∧ (c9 = 0 → O9.1 0 = (v).toInt64) ∧ WR G g ad9 S9 X9 S2 Y O9 ∧ cOK S9 X9 (T + 1) ∧ adK ad ad9)) 5 24 A := by
  refine lq_ofWH (cc := cL_hint) (maxL := 4) (ret := (some .int)) (hh := [(0, 9, 12, 21), (0, 9, 15, 15)]) (by decide) rfl ?_
  intro p e s m args below meth c s₁ B hml hv
  obtain ⟨rfl, ⟨⟨hK, hZ, hM, hA⟩, hN⟩, hp⟩ := hv
  have hx := B.exec
  have hb := B.bytes
  have hr := B.returns
  have hts := atoms_spec (ws := wsL_hint) B.pre
  have hown : s.vm.findClass RL = some m.cls := findClass_of_methodNamed B.named
  have ht9 := vx_table (x := yL_hint) B (hts _ List.mem_cons_self)
  have hlocks := B.notSynchronized
  have hS : va_S A s.heap s.heap [] := va_S.rf
  have hl := lv_entry ([.ref (ad 0 0 0), .int ua, .ref (ad 38 0 0)]) (n := 4) (Nat.le_of_ble_eq_true rfl)
  rw [lg_entry_eq]
  generalize (lg_sl ([.ref (ad 0 0 0), .int ua, .ref (ad 38 0 0)]) ++ List.replicate (4 - (lg_sl ([.ref (ad 0 0 0), .int ua, .ref (ad 38 0 0)])).length) Slot.unset).toArray = ls at hl ⊢
  have hl : lv_has ls 4 [(0, .ref (ad 0 0 0)), (1, .int ua), (2, .ref (ad 38 0 0))] := hl
  have w0 := hts (.classLink RL 21 "java/lang/IndexOutOfBoundsException") (List.mem_of_getElem? (i := 1) rfl)
  have w1 := hts (.classLink RL 15 "java/lang/IllegalStateException") (List.mem_of_getElem? (i := 2) rfl)
  obtain ⟨hR, hO, hT5⟩ := hp
  have y0 := hR.1 _ _ _ _ t0
  have y38 := hR.1 38 0 0 _ t38
  refine lv_aload_n hx hb dL_hint_0 rfl (lv_at hl 2 rfl) ?_
  refine lv_iconst (v := 0) hx hb dL_hint_1 (by decide) ?_
  refine lv_aload_n hx hb dL_hint_2 rfl (lv_at hl 0 rfl) ?_
  refine lv_iload_n hx hb dL_hint_3 rfl (lv_at hl 1 rfl) ?_
  refine mq_xcalli (vx_runV (As := [.int ua]) (rest := [.int 0, .ref (ad 38 0 0)]) ⟨hx, hb, hml, hown, hts⟩ (c_X7_hint l hfl G A f ad S X S2 Y O T ua) (cwV 1 hts gL_hint_X7_hint rfl rfl rfl (by decide +kernel) ⟨Nat.le_of_ble_eq_true rfl, Nat.le_of_ble_eq_true rfl⟩) (mq_preV hK hZ hS hA hM (q := (RX7, TX7, 6)) y0 rfl (⟨hR, hO, hT5⟩) _) rfl rfl hl.1 rfl (lv_room (Nat.le_of_ble_eq_true rfl)) dL_hint_4 ⟨Nat.le_of_ble_eq_true rfl, Nat.le_of_ble_eq_true rfl⟩) hS (fun E ce q9 g4 H locs p4 hM hS hce hcv hcl => ?_) (fun r4 g4 H locs p4 hM hS => ?_)
  · obtain ⟨rfl, hx9⟩ := p4
    rcases hx9 with ⟨hc9, rfl⟩ | ⟨hc9, rfl⟩
    · refine vx_catch (name := "java/lang/IndexOutOfBoundsException") hown [] ⟨0, 9, 12, 21⟩ [⟨0, 9, 15, 15⟩] (ht9.trans rfl) (fun z hz => (by cases hz)) (by decide) (by decide) w0 (va_Nw.use rfl (mq_cast hZ (by decide))) hce hcv hcl ?_
      refine W.eq (g2 := F0 m 12 ls [.ref q9]) rfl ?_
      refine W.widen (k := 5) (n := 24) (Nat.le_of_ble_eq_true rfl) (Nat.le_of_ble_eq_true rfl) ?_
      refine lv_astore_n (lv' := [(3, .ref q9), (0, .ref (ad 0 0 0)), (1, .int ua), (2, .ref (ad 38 0 0))]) hx hb dL_hint_12 rfl hl (by decide) rfl (fun ls hl => ?_)
      refine lv_iconst (v := 1) hx hb dL_hint_13 (by decide) ?_
      exact mq_iret (v := 1) hx hb hr hlocks hM hS (⟨1, (spHint S ua).2.1, S, X, O, ad, Prod.ext hc9 (Prod.ext rfl (st_hint (by rw [hc9]; decide))), rfl, by decide, fun h => absurd h (by decide), hR, ok_mono hO hT5, adK_id⟩) dL_hint_14
    · refine vx_catch (name := "java/lang/IllegalStateException") hown [⟨0, 9, 12, 21⟩] ⟨0, 9, 15, 15⟩ [] (ht9.trans rfl) (fun z hz => (by rw [List.mem_singleton] at hz; subst hz; exact Or.inr ⟨by decide, "java/lang/IndexOutOfBoundsException", w0, hN ("java/lang/IllegalStateException", "java/lang/IndexOutOfBoundsException") (by decide)⟩)) (by decide) (by decide) w1 (va_Nw.use rfl (mq_cast hZ (by decide))) hce hcv hcl ?_
      refine W.eq (g2 := F0 m 15 ls [.ref q9]) rfl ?_
      refine W.widen (k := 5) (n := 24) (Nat.le_of_ble_eq_true rfl) (Nat.le_of_ble_eq_true rfl) ?_
      refine lv_astore_n (lv' := [(3, .ref q9), (0, .ref (ad 0 0 0)), (1, .int ua), (2, .ref (ad 38 0 0))]) hx hb dL_hint_15 rfl hl (by decide) rfl (fun ls hl => ?_)
      refine lv_iconst (v := 2) hx hb dL_hint_16 (by decide) ?_
      exact mq_iret (v := 2) hx hb hr hlocks hM hS (⟨2, (spHint S ua).2.1, S, X, O, ad, Prod.ext hc9 (Prod.ext rfl (st_hint (by rw [hc9]; decide))), rfl, by decide, fun h => absurd h (by decide), hR, ok_mono hO hT5, adK_id⟩) dL_hint_17
  refine W.widen (k := 5) (n := 24) (Nat.le_of_ble_eq_true rfl) (Nat.le_of_ble_eq_true rfl) ?_
  obtain ⟨S9, X9, e7, hR9, hO9⟩ := p4
  have z38 := hR9.1 38 0 0 _ t38
  refine lv_i2l hx hb dL_hint_7 rfl ?_
  refine mq_last hx hb hK hM hS z38 (vp_in_nI (n := 0) (by decide) (by decide)) dL_hint_8 (fun f_1 H locs e_2 hM hS => ?_)
  rw [show (0 : Int32).toNatClampNeg = 0 from rfl] at e_2
  have h_3 : f_1 (ad 38 0 0) = some (.inl (G.2 1, 1, .inr (.inl (vp_updL O.1 0 r4.toInt64)))) := mq_s e_2
  have hR8 := WR_o8 hR9 rfl e_2
  refine lv_goto (tgt := 18) hx hb dL_hint_9 (by decide) ?_
  refine lv_iconst (v := 0) hx hb dL_hint_18 (by decide) ?_
  exact mq_iret (v := 0) hx hb hr hlocks hM hS (⟨0, r4, S9, X9, _, ad, e7, rfl, by decide, fun _ => rfl, hR8, hO9, adK_id⟩) dL_hint_19

set_option maxHeartbeats 4000000 in
set_option maxRecDepth 100000 in
theorem c_L_faults (l : Launch) (hfl : l.stackTraces = false) (G : mq_G) (A : Nat → Prop) (f : mq_F) (ad : AD) (S : AT) (X : CX) (S2 : AT) (Y : MX) (O : OX) (T : Nat) (ua : Int32) : Met l yL_faults wsL_faults ({ frames := 9, cells := 2, slots := 12, locals := 163 } : Room) (lq_Pc G A f (WR G f ad S X S2 Y O ∧ cOK S X T ∧ T < 512) [.ref (ad 0 0 0), .int ua, .ref (ad 38 0 0)]) (mq_Qi G A (fun r g => ∃ c9 v O9, spFaults S ua = (c9, v) ∧ r = nI c9 ∧ c9 ≤ 3 ∧ (c9 = 0 → O9.1 0 = (v).toInt64) ∧ WR G g ad S X S2 Y O9)) 2 12 A := by
  refine lq_ofWH (cc := cL_faults) (maxL := 4) (ret := (some .int)) (hh := [(0, 9, 12, 21), (0, 9, 15, 15)]) (by decide) rfl ?_
  intro p e s m args below meth c s₁ B hml hv
  obtain ⟨rfl, ⟨⟨hK, hZ, hM, hA⟩, hN⟩, hp⟩ := hv
  have hx := B.exec
  have hb := B.bytes
  have hr := B.returns
  have hts := atoms_spec (ws := wsL_faults) B.pre
  have hown : s.vm.findClass RL = some m.cls := findClass_of_methodNamed B.named
  have ht9 := vx_table (x := yL_faults) B (hts _ List.mem_cons_self)
  have hlocks := B.notSynchronized
  have hS : va_S A s.heap s.heap [] := va_S.rf
  have hl := lv_entry ([.ref (ad 0 0 0), .int ua, .ref (ad 38 0 0)]) (n := 4) (Nat.le_of_ble_eq_true rfl)
  rw [lg_entry_eq]
  generalize (lg_sl ([.ref (ad 0 0 0), .int ua, .ref (ad 38 0 0)]) ++ List.replicate (4 - (lg_sl ([.ref (ad 0 0 0), .int ua, .ref (ad 38 0 0)])).length) Slot.unset).toArray = ls at hl ⊢
  have hl : lv_has ls 4 [(0, .ref (ad 0 0 0)), (1, .int ua), (2, .ref (ad 38 0 0))] := hl
  have w0 := hts (.classLink RL 21 "java/lang/IndexOutOfBoundsException") (List.mem_of_getElem? (i := 1) rfl)
  have w1 := hts (.classLink RL 15 "java/lang/IllegalStateException") (List.mem_of_getElem? (i := 2) rfl)
  obtain ⟨hR, hO, hT5⟩ := hp
  have y0 := hR.1 _ _ _ _ t0
  have y38 := hR.1 38 0 0 _ t38
  refine lv_aload_n hx hb dL_faults_0 rfl (lv_at hl 2 rfl) ?_
  refine lv_iconst (v := 0) hx hb dL_faults_1 (by decide) ?_
  refine lv_aload_n hx hb dL_faults_2 rfl (lv_at hl 0 rfl) ?_
  refine lv_iload_n hx hb dL_faults_3 rfl (lv_at hl 1 rfl) ?_
  refine mq_xcalli (vx_runV (As := [.int ua]) (rest := [.int 0, .ref (ad 38 0 0)]) ⟨hx, hb, hml, hown, hts⟩ (c_X7_faults l hfl G A f ad S X S2 Y O T ua) (cwV 1 hts gL_faults_X7_faults rfl rfl rfl (by decide +kernel) ⟨Nat.le_of_ble_eq_true rfl, Nat.le_of_ble_eq_true rfl⟩) (mq_preV hK hZ hS hA hM (q := (RX7, TX7, 6)) y0 rfl (⟨hR, hO⟩) _) rfl rfl hl.1 rfl (lv_room (Nat.le_of_ble_eq_true rfl)) dL_faults_4 ⟨Nat.le_of_ble_eq_true rfl, Nat.le_of_ble_eq_true rfl⟩) hS (fun E ce q9 g4 H locs p4 hM hS hce hcv hcl => ?_) (fun r4 g4 H locs p4 hM hS => ?_)
  · obtain ⟨rfl, hx9⟩ := p4
    rcases hx9 with ⟨hc9, rfl⟩ | ⟨hc9, rfl⟩
    · refine vx_catch (name := "java/lang/IndexOutOfBoundsException") hown [] ⟨0, 9, 12, 21⟩ [⟨0, 9, 15, 15⟩] (ht9.trans rfl) (fun z hz => (by cases hz)) (by decide) (by decide) w0 (va_Nw.use rfl (mq_cast hZ (by decide))) hce hcv hcl ?_
      refine W.eq (g2 := F0 m 12 ls [.ref q9]) rfl ?_
      refine W.widen (k := 2) (n := 12) (Nat.le_of_ble_eq_true rfl) (Nat.le_of_ble_eq_true rfl) ?_
      refine lv_astore_n (lv' := [(3, .ref q9), (0, .ref (ad 0 0 0)), (1, .int ua), (2, .ref (ad 38 0 0))]) hx hb dL_faults_12 rfl hl (by decide) rfl (fun ls hl => ?_)
      refine lv_iconst (v := 1) hx hb dL_faults_13 (by decide) ?_
      exact mq_iret (v := 1) hx hb hr hlocks hM hS (⟨1, (spFaults S ua).2, O, Prod.ext hc9 rfl, rfl, by decide, fun h => absurd h (by decide), hR⟩) dL_faults_14
    · refine vx_catch (name := "java/lang/IllegalStateException") hown [⟨0, 9, 12, 21⟩] ⟨0, 9, 15, 15⟩ [] (ht9.trans rfl) (fun z hz => (by rw [List.mem_singleton] at hz; subst hz; exact Or.inr ⟨by decide, "java/lang/IndexOutOfBoundsException", w0, hN ("java/lang/IllegalStateException", "java/lang/IndexOutOfBoundsException") (by decide)⟩)) (by decide) (by decide) w1 (va_Nw.use rfl (mq_cast hZ (by decide))) hce hcv hcl ?_
      refine W.eq (g2 := F0 m 15 ls [.ref q9]) rfl ?_
      refine W.widen (k := 2) (n := 12) (Nat.le_of_ble_eq_true rfl) (Nat.le_of_ble_eq_true rfl) ?_
      refine lv_astore_n (lv' := [(3, .ref q9), (0, .ref (ad 0 0 0)), (1, .int ua), (2, .ref (ad 38 0 0))]) hx hb dL_faults_15 rfl hl (by decide) rfl (fun ls hl => ?_)
      refine lv_iconst (v := 2) hx hb dL_faults_16 (by decide) ?_
      exact mq_iret (v := 2) hx hb hr hlocks hM hS (⟨2, (spFaults S ua).2, O, Prod.ext hc9 rfl, rfl, by decide, fun h => absurd h (by decide), hR⟩) dL_faults_17
  refine W.widen (k := 2) (n := 12) (Nat.le_of_ble_eq_true rfl) (Nat.le_of_ble_eq_true rfl) ?_
  obtain ⟨rfl, e7⟩ := p4
  have hR9 := hR
  refine lv_i2l hx hb dL_faults_7 rfl ?_
  refine mq_last hx hb hK hM hS y38 (vp_in_nI (n := 0) (by decide) (by decide)) dL_faults_8 (fun f_1 H locs e_2 hM hS => ?_)
  rw [show (0 : Int32).toNatClampNeg = 0 from rfl] at e_2
  have h_3 : f_1 (ad 0 0 0) = some (.inr (12, [.ref (ad 1 0 0), .ref (ad 2 0 0), .ref (ad 3 0 0), .int (nI (aN S)), .int (nI (aL S)), .int (nI (aD S))])) := mq_n e_2 y0 (mq_neA y0 y38)
  have h_4 : f_1 (ad 38 0 0) = some (.inl (G.2 1, 1, .inr (.inl (vp_updL O.1 0 r4.toInt64)))) := mq_s e_2
  have hR8 := WR_o8 hR9 rfl e_2
  refine lv_goto (tgt := 18) hx hb dL_faults_9 (by decide) ?_
  refine lv_iconst (v := 0) hx hb dL_faults_18 (by decide) ?_
  exact mq_iret (v := 0) hx hb hr hlocks hM hS (⟨0, r4, _, e7, rfl, by decide, fun _ => rfl, hR8⟩) dL_faults_19

set_option maxHeartbeats 4000000 in
set_option maxRecDepth 100000 in
theorem c_L_knownShare (l : Launch) (hfl : l.stackTraces = false) (G : mq_G) (A : Nat → Prop) (f : mq_F) (ad : AD) (S : AT) (X : CX) (S2 : AT) (Y : MX) (O : OX) (T : Nat) : Met l yL_knownShare wsL_knownShare ({ frames := 8, cells := 1, slots := 6, locals := 144 } : Room) (lq_Pc G A f (WR G f ad S X S2 Y O ∧ cOK S X T ∧ T < 512) [.ref (ad 0 0 0), .ref (ad 39 0 0)]) (mq_Qi G A (fun r g => ∃ c9 O9, ((c9 = 0 ∧ aL S * aN S ≠ 0 ∧ O9.2 0 = FP.f2d (shF S)) ∨ (c9 = 1 ∧ aL S * aN S = 0)) ∧ r = nI c9 ∧ WR G g ad S X S2 Y O9)) 1 6 A := by
  refine lq_ofWH (cc := cL_knownShare) (maxL := 3) (ret := (some .int)) (hh := [(0, 8, 11, 53)]) (by decide) rfl ?_
  intro p e s m args below meth c s₁ B hml hv
  obtain ⟨rfl, ⟨⟨hK, hZ, hM, hA⟩, hN⟩, hp⟩ := hv
  have hx := B.exec
  have hb := B.bytes
  have hr := B.returns
  have hts := atoms_spec (ws := wsL_knownShare) B.pre
  have hown : s.vm.findClass RL = some m.cls := findClass_of_methodNamed B.named
  have ht9 := vx_table (x := yL_knownShare) B (hts _ List.mem_cons_self)
  have hlocks := B.notSynchronized
  have hS : va_S A s.heap s.heap [] := va_S.rf
  have hl := lv_entry ([.ref (ad 0 0 0), .ref (ad 39 0 0)]) (n := 3) (Nat.le_of_ble_eq_true rfl)
  rw [lg_entry_eq]
  generalize (lg_sl ([.ref (ad 0 0 0), .ref (ad 39 0 0)]) ++ List.replicate (3 - (lg_sl ([.ref (ad 0 0 0), .ref (ad 39 0 0)])).length) Slot.unset).toArray = ls at hl ⊢
  have hl : lv_has ls 3 [(0, .ref (ad 0 0 0)), (1, .ref (ad 39 0 0))] := hl
  have w0 := hts (.classLink RL 53 "java/lang/ArithmeticException") (List.mem_of_getElem? (i := 1) rfl)
  obtain ⟨hR, hO, hT5⟩ := hp
  have y0 := hR.1 _ _ _ _ t0
  have y38 := hR.1 39 0 0 _ t39
  refine lv_aload_n hx hb dL_knownShare_0 rfl (lv_at hl 1 rfl) ?_
  refine lv_iconst (v := 0) hx hb dL_knownShare_1 (by decide) ?_
  refine lv_aload_n hx hb dL_knownShare_2 rfl (lv_at hl 0 rfl) ?_
  refine mq_xcallf (vx_runV (As := []) (rest := [.int 0, .ref (ad 39 0 0)]) ⟨hx, hb, hml, hown, hts⟩ (c_X7_knownShare l hfl G A f ad S X S2 Y O T) (cwV 0 hts gL_knownShare_X7_knownShare rfl rfl rfl (by decide +kernel) ⟨Nat.le_of_ble_eq_true rfl, Nat.le_of_ble_eq_true rfl⟩) (mq_preV hK hZ hS hA hM (q := (RX7, TX7, 6)) y0 rfl (⟨hR, hO⟩) _) rfl rfl hl.1 rfl (lv_room (Nat.le_of_ble_eq_true rfl)) dL_knownShare_3 ⟨Nat.le_of_ble_eq_true rfl, Nat.le_of_ble_eq_true rfl⟩) hS (fun E ce q9 g3 H locs p3 hM hS hce hcv hcl => ?_) (fun r3 g3 H locs p3 hM hS => ?_)
  · obtain ⟨rfl, rfl, hc9⟩ := p3
    refine vx_catch (name := "java/lang/ArithmeticException") hown [] ⟨0, 8, 11, 53⟩ [] (ht9.trans rfl) (fun z hz => (by cases hz)) (by decide) (by decide) w0 (va_Nw.use rfl (mq_cast hZ (by decide))) hce hcv hcl ?_
    refine W.eq (g2 := F0 m 11 ls [.ref q9]) rfl ?_
    refine W.widen (k := 1) (n := 6) (Nat.le_of_ble_eq_true rfl) (Nat.le_of_ble_eq_true rfl) ?_
    refine lv_astore_n (lv' := [(2, .ref q9), (0, .ref (ad 0 0 0)), (1, .ref (ad 39 0 0))]) hx hb dL_knownShare_11 rfl hl (by decide) rfl (fun ls hl => ?_)
    refine lv_iconst (v := 1) hx hb dL_knownShare_12 (by decide) ?_
    exact mq_iret (v := 1) hx hb hr hlocks hM hS (⟨1, O, Or.inr ⟨rfl, hc9⟩, rfl, hR⟩) dL_knownShare_13
  refine W.widen (k := 1) (n := 6) (Nat.le_of_ble_eq_true rfl) (Nat.le_of_ble_eq_true rfl) ?_
  obtain ⟨rfl, hne, rfl⟩ := p3
  have hR9 := hR
  have hsb := shF_b hO hne
  refine lv_f2d hx hb dL_knownShare_6 (hsb.1) ?_
  refine mq_dast hx hb hK hM hS y38 (vp_in_nI (n := 0) (by decide) (by decide)) dL_knownShare_7 (fun f_1 H locs e_2 hM hS => ?_)
  rw [show (0 : Int32).toNatClampNeg = 0 from rfl] at e_2
  have h_3 : f_1 (ad 0 0 0) = some (.inr (12, [.ref (ad 1 0 0), .ref (ad 2 0 0), .ref (ad 3 0 0), .int (nI (aN S)), .int (nI (aL S)), .int (nI (aD S))])) := mq_n e_2 y0 (mq_neA y0 y38)
  have h_4 : f_1 (ad 39 0 0) = some (.inl (G.2 9, 1, .inr (.inr (.inr (.inl (vf_upd O.2 0 (FP.f2d (shF S)))))))) := mq_s e_2
  have hR8 := WR_o9 hR9 rfl e_2
  refine lv_goto (tgt := 14) hx hb dL_knownShare_8 (by decide) ?_
  refine lv_iconst (v := 0) hx hb dL_knownShare_14 (by decide) ?_
  exact mq_iret (v := 0) hx hb hr hlocks hM hS (⟨0, _, Or.inl ⟨rfl, hne, rfl⟩, rfl, hR8⟩) dL_knownShare_15

set_option maxHeartbeats 4000000 in
set_option maxRecDepth 100000 in
theorem c_L_meanOdds (l : Launch) (hfl : l.stackTraces = false) (G : mq_G) (A : Nat → Prop) (f : mq_F) (ad : AD) (S : AT) (X : CX) (S2 : AT) (Y : MX) (O : OX) (T : Nat) (ua : Int32) : Met l yL_meanOdds wsL_meanOdds ({ frames := 9, cells := 2, slots := 12, locals := 164 } : Room) (lq_Pc G A f (WR G f ad S X S2 Y O ∧ cOK S X T ∧ T < 512) [.ref (ad 0 0 0), .int ua, .ref (ad 39 0 0)]) (mq_Qi G A (fun r g => ∃ c9 v O9, spMean S ua = (c9, v) ∧ r = nI c9 ∧ c9 ≤ 3 ∧ (c9 = 0 → O9.2 0 = v) ∧ WR G g ad S X S2 Y O9)) 2 12 A := by
  refine lq_ofWH (cc := cL_meanOdds) (maxL := 4) (ret := (some .int)) (hh := [(0, 8, 11, 21), (0, 8, 14, 53)]) (by decide) rfl ?_
  intro p e s m args below meth c s₁ B hml hv
  obtain ⟨rfl, ⟨⟨hK, hZ, hM, hA⟩, hN⟩, hp⟩ := hv
  have hx := B.exec
  have hb := B.bytes
  have hr := B.returns
  have hts := atoms_spec (ws := wsL_meanOdds) B.pre
  have hown : s.vm.findClass RL = some m.cls := findClass_of_methodNamed B.named
  have ht9 := vx_table (x := yL_meanOdds) B (hts _ List.mem_cons_self)
  have hlocks := B.notSynchronized
  have hS : va_S A s.heap s.heap [] := va_S.rf
  have hl := lv_entry ([.ref (ad 0 0 0), .int ua, .ref (ad 39 0 0)]) (n := 4) (Nat.le_of_ble_eq_true rfl)
  rw [lg_entry_eq]
  generalize (lg_sl ([.ref (ad 0 0 0), .int ua, .ref (ad 39 0 0)]) ++ List.replicate (4 - (lg_sl ([.ref (ad 0 0 0), .int ua, .ref (ad 39 0 0)])).length) Slot.unset).toArray = ls at hl ⊢
  have hl : lv_has ls 4 [(0, .ref (ad 0 0 0)), (1, .int ua), (2, .ref (ad 39 0 0))] := hl
  have w0 := hts (.classLink RL 21 "java/lang/IndexOutOfBoundsException") (List.mem_of_getElem? (i := 1) rfl)
  have w1 := hts (.classLink RL 53 "java/lang/ArithmeticException") (List.mem_of_getElem? (i := 2) rfl)
  obtain ⟨hR, hO, hT5⟩ := hp
  have y0 := hR.1 _ _ _ _ t0
  have y38 := hR.1 39 0 0 _ t39
  refine lv_aload_n hx hb dL_meanOdds_0 rfl (lv_at hl 2 rfl) ?_
  refine lv_iconst (v := 0) hx hb dL_meanOdds_1 (by decide) ?_
  refine lv_aload_n hx hb dL_meanOdds_2 rfl (lv_at hl 0 rfl) ?_
  refine lv_iload_n hx hb dL_meanOdds_3 rfl (lv_at hl 1 rfl) ?_
  refine mq_xcalld (vx_runV (As := [.int ua]) (rest := [.int 0, .ref (ad 39 0 0)]) ⟨hx, hb, hml, hown, hts⟩ (c_X7_meanOdds l hfl G A f ad S X S2 Y O T ua) (cwV 1 hts gL_meanOdds_X7_meanOdds rfl rfl rfl (by decide +kernel) ⟨Nat.le_of_ble_eq_true rfl, Nat.le_of_ble_eq_true rfl⟩) (mq_preV hK hZ hS hA hM (q := (RX7, TX7, 6)) y0 rfl (⟨hR, hO⟩) _) rfl rfl hl.1 rfl (lv_room (Nat.le_of_ble_eq_true rfl)) dL_meanOdds_4 ⟨Nat.le_of_ble_eq_true rfl, Nat.le_of_ble_eq_true rfl⟩) hS (fun E ce q9 g4 H locs p4 hM hS hce hcv hcl => ?_) (fun r4 g4 H locs p4 hM hS => ?_)
  · obtain ⟨rfl, hx9⟩ := p4
    rcases hx9 with ⟨hc9, rfl⟩ | ⟨hc9, rfl⟩
    · refine vx_catch (name := "java/lang/IndexOutOfBoundsException") hown [] ⟨0, 8, 11, 21⟩ [⟨0, 8, 14, 53⟩] (ht9.trans rfl) (fun z hz => (by cases hz)) (by decide) (by decide) w0 (va_Nw.use rfl (mq_cast hZ (by decide))) hce hcv hcl ?_
      refine W.eq (g2 := F0 m 11 ls [.ref q9]) rfl ?_
      refine W.widen (k := 2) (n := 12) (Nat.le_of_ble_eq_true rfl) (Nat.le_of_ble_eq_true rfl) ?_
      refine lv_astore_n (lv' := [(3, .ref q9), (0, .ref (ad 0 0 0)), (1, .int ua), (2, .ref (ad 39 0 0))]) hx hb dL_meanOdds_11 rfl hl (by decide) rfl (fun ls hl => ?_)
      refine lv_iconst (v := 1) hx hb dL_meanOdds_12 (by decide) ?_
      exact mq_iret (v := 1) hx hb hr hlocks hM hS (⟨1, (spMean S ua).2, O, Prod.ext hc9 rfl, rfl, by decide, fun h => absurd h (by decide), hR⟩) dL_meanOdds_13
    · refine vx_catch (name := "java/lang/ArithmeticException") hown [⟨0, 8, 11, 21⟩] ⟨0, 8, 14, 53⟩ [] (ht9.trans rfl) (fun z hz => (by rw [List.mem_singleton] at hz; subst hz; exact Or.inr ⟨by decide, "java/lang/IndexOutOfBoundsException", w0, hN ("java/lang/ArithmeticException", "java/lang/IndexOutOfBoundsException") (by decide)⟩)) (by decide) (by decide) w1 (va_Nw.use rfl (mq_cast hZ (by decide))) hce hcv hcl ?_
      refine W.eq (g2 := F0 m 14 ls [.ref q9]) rfl ?_
      refine W.widen (k := 2) (n := 12) (Nat.le_of_ble_eq_true rfl) (Nat.le_of_ble_eq_true rfl) ?_
      refine lv_astore_n (lv' := [(3, .ref q9), (0, .ref (ad 0 0 0)), (1, .int ua), (2, .ref (ad 39 0 0))]) hx hb dL_meanOdds_14 rfl hl (by decide) rfl (fun ls hl => ?_)
      refine lv_iconst (v := 2) hx hb dL_meanOdds_15 (by decide) ?_
      exact mq_iret (v := 2) hx hb hr hlocks hM hS (⟨2, (spMean S ua).2, O, Prod.ext hc9 rfl, rfl, by decide, fun h => absurd h (by decide), hR⟩) dL_meanOdds_16
  refine W.widen (k := 2) (n := 12) (Nat.le_of_ble_eq_true rfl) (Nat.le_of_ble_eq_true rfl) ?_
  obtain ⟨rfl, e7⟩ := p4
  have hR9 := hR
  refine mq_dast hx hb hK hM hS y38 (vp_in_nI (n := 0) (by decide) (by decide)) dL_meanOdds_7 (fun f_1 H locs e_2 hM hS => ?_)
  rw [show (0 : Int32).toNatClampNeg = 0 from rfl] at e_2
  have h_3 : f_1 (ad 0 0 0) = some (.inr (12, [.ref (ad 1 0 0), .ref (ad 2 0 0), .ref (ad 3 0 0), .int (nI (aN S)), .int (nI (aL S)), .int (nI (aD S))])) := mq_n e_2 y0 (mq_neA y0 y38)
  have h_4 : f_1 (ad 39 0 0) = some (.inl (G.2 9, 1, .inr (.inr (.inr (.inl (vf_upd O.2 0 r4)))))) := mq_s e_2
  have hR8 := WR_o9 hR9 rfl e_2
  refine lv_goto (tgt := 17) hx hb dL_meanOdds_8 (by decide) ?_
  refine lv_iconst (v := 0) hx hb dL_meanOdds_17 (by decide) ?_
  exact mq_iret (v := 0) hx hb hr hlocks hM hS (⟨0, r4, _, e7, rfl, by decide, fun _ => rfl, hR8⟩) dL_meanOdds_18
