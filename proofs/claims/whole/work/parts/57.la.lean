/-! THE LAW'S METHODS -/
set_option maxHeartbeats 4000000 in
set_option maxRecDepth 100000 in
theorem c_L_addSkill (l : Launch) (hfl : l.stackTraces = false) (G : mq_G) (A : Nat → Prop) (f : mq_F) (ad : AD) (S : AT) (X : CX) (S2 : AT) (Y : MX) (O : OX) (T : Nat) (ua ub uc : Int32) : Met l yL_addSkill wsL_addSkill ({ frames := 9, cells := 4, slots := 24, locals := 163 } : Room) (lq_Pc G A f (WR G f ad S X S2 Y O ∧ cOK S X T ∧ T < 512) [.ref (ad 0 0 0), .int ua, .int ub, .int uc, .ref (ad 38 0 0)]) (mq_Qi G A (fun r g => ∃ c9 v S9 X9 O9 ad9, spSkill S ua ub uc = (c9, v, S9) ∧ r = nI c9 ∧ c9 ≤ 3 ∧ (c9 = 0 → O9.1 0 = (v).toInt64) ∧ WR G g ad9 S9 X9 S2 Y O9 ∧ cOK S9 X9 (T + 1) ∧ adK ad ad9)) 4 24 A := by
  refine lq_ofWH (cc := cL_addSkill) (maxL := 6) (ret := (some .int)) (hh := [(0, 12, 15, 13), (0, 12, 19, 15)]) (by decide) rfl ?_
  intro p e s m args below meth c s₁ B hml hv
  obtain ⟨rfl, ⟨⟨hK, hZ, hM, hA⟩, hN⟩, hp⟩ := hv
  have hx := B.exec
  have hb := B.bytes
  have hr := B.returns
  have hts := atoms_spec (ws := wsL_addSkill) B.pre
  have hown : s.vm.findClass RL = some m.cls := findClass_of_methodNamed B.named
  have ht9 := vx_table (x := yL_addSkill) B (hts _ List.mem_cons_self)
  have hlocks := B.notSynchronized
  have hS : va_S A s.heap s.heap [] := va_S.rf
  have hl := lv_entry ([.ref (ad 0 0 0), .int ua, .int ub, .int uc, .ref (ad 38 0 0)]) (n := 6) (Nat.le_of_ble_eq_true rfl)
  rw [lg_entry_eq]
  generalize (lg_sl ([.ref (ad 0 0 0), .int ua, .int ub, .int uc, .ref (ad 38 0 0)]) ++ List.replicate (6 - (lg_sl ([.ref (ad 0 0 0), .int ua, .int ub, .int uc, .ref (ad 38 0 0)])).length) Slot.unset).toArray = ls at hl ⊢
  have hl : lv_has ls 6 [(0, .ref (ad 0 0 0)), (1, .int ua), (2, .int ub), (3, .int uc), (4, .ref (ad 38 0 0))] := hl
  have w0 := hts (.classLink RL 13 "java/lang/IllegalArgumentException") (List.mem_of_getElem? (i := 1) rfl)
  have w1 := hts (.classLink RL 15 "java/lang/IllegalStateException") (List.mem_of_getElem? (i := 2) rfl)
  obtain ⟨hR, hO, hT5⟩ := hp
  have y0 := hR.1 _ _ _ _ t0
  have y38 := hR.1 38 0 0 _ t38
  refine lv_aload hx hb dL_addSkill_0 (lv_at hl 4 rfl) ?_
  refine lv_iconst (v := 0) hx hb dL_addSkill_2 (by decide) ?_
  refine lv_aload_n hx hb dL_addSkill_3 rfl (lv_at hl 0 rfl) ?_
  refine lv_iload_n hx hb dL_addSkill_4 rfl (lv_at hl 1 rfl) ?_
  refine lv_iload_n hx hb dL_addSkill_5 rfl (lv_at hl 2 rfl) ?_
  refine lv_iload_n hx hb dL_addSkill_6 rfl (lv_at hl 3 rfl) ?_
  refine mq_xcalli (vx_runV (As := [.int ua, .int ub, .int uc]) (rest := [.int 0, .ref (ad 38 0 0)]) ⟨hx, hb, hml, hown, hts⟩ (c_X7_addSkill l hfl G A f ad S X S2 Y O T ua ub uc) (cwV 3 hts gL_addSkill_X7_addSkill rfl rfl rfl (by decide +kernel) ⟨Nat.le_of_ble_eq_true rfl, Nat.le_of_ble_eq_true rfl⟩) (mq_preV hK hZ hS hA hM (q := (RX7, TX7, 6)) y0 rfl (⟨hR, hO, hT5⟩) _) rfl rfl hl.1 rfl (lv_room (Nat.le_of_ble_eq_true rfl)) dL_addSkill_7 ⟨Nat.le_of_ble_eq_true rfl, Nat.le_of_ble_eq_true rfl⟩) hS (fun E ce q9 g7 H locs p7 hM hS hce hcv hcl => ?_) (fun r7 g7 H locs p7 hM hS => ?_)
  · obtain ⟨rfl, hx9⟩ := p7
    rcases hx9 with ⟨hc9, rfl⟩ | ⟨hc9, rfl⟩
    · refine vx_catch (name := "java/lang/IllegalArgumentException") hown [] ⟨0, 12, 15, 13⟩ [⟨0, 12, 19, 15⟩] (ht9.trans rfl) (fun z hz => (by cases hz)) (by decide) (by decide) w0 (va_Nw.use rfl (mq_cast hZ (by decide))) hce hcv hcl ?_
      refine W.eq (g2 := F0 m 15 ls [.ref q9]) rfl ?_
      refine W.widen (k := 4) (n := 24) (Nat.le_of_ble_eq_true rfl) (Nat.le_of_ble_eq_true rfl) ?_
      refine lv_astore (lv' := [(5, .ref q9), (0, .ref (ad 0 0 0)), (1, .int ua), (2, .int ub), (3, .int uc), (4, .ref (ad 38 0 0))]) hx hb dL_addSkill_15 hl (by decide) rfl (fun ls hl => ?_)
      refine lv_iconst (v := 1) hx hb dL_addSkill_17 (by decide) ?_
      exact mq_iret (v := 1) hx hb hr hlocks hM hS (⟨1, (spSkill S ua ub uc).2.1, S, X, O, ad, Prod.ext hc9 (Prod.ext rfl (st_skill (by rw [hc9]; decide))), rfl, by decide, fun h => absurd h (by decide), hR, ok_mono hO hT5, adK_id⟩) dL_addSkill_18
    · refine vx_catch (name := "java/lang/IllegalStateException") hown [⟨0, 12, 15, 13⟩] ⟨0, 12, 19, 15⟩ [] (ht9.trans rfl) (fun z hz => (by rw [List.mem_singleton] at hz; subst hz; exact Or.inr ⟨by decide, "java/lang/IllegalArgumentException", w0, hN ("java/lang/IllegalStateException", "java/lang/IllegalArgumentException") (by decide)⟩)) (by decide) (by decide) w1 (va_Nw.use rfl (mq_cast hZ (by decide))) hce hcv hcl ?_
      refine W.eq (g2 := F0 m 19 ls [.ref q9]) rfl ?_
      refine W.widen (k := 4) (n := 24) (Nat.le_of_ble_eq_true rfl) (Nat.le_of_ble_eq_true rfl) ?_
      refine lv_astore (lv' := [(5, .ref q9), (0, .ref (ad 0 0 0)), (1, .int ua), (2, .int ub), (3, .int uc), (4, .ref (ad 38 0 0))]) hx hb dL_addSkill_19 hl (by decide) rfl (fun ls hl => ?_)
      refine lv_iconst (v := 2) hx hb dL_addSkill_21 (by decide) ?_
      exact mq_iret (v := 2) hx hb hr hlocks hM hS (⟨2, (spSkill S ua ub uc).2.1, S, X, O, ad, Prod.ext hc9 (Prod.ext rfl (st_skill (by rw [hc9]; decide))), rfl, by decide, fun h => absurd h (by decide), hR, ok_mono hO hT5, adK_id⟩) dL_addSkill_22
  refine W.widen (k := 4) (n := 24) (Nat.le_of_ble_eq_true rfl) (Nat.le_of_ble_eq_true rfl) ?_
  obtain ⟨S9, X9, ad9, e7, hR9, hO9, hk9⟩ := p7
  have z38 : g7 (ad 38 0 0) = some (.inl (G.2 1, 1, .inr (.inl O.1))) := by rw [← hk9.2.2.1]; exact hR9.1 38 0 0 _ t38
  refine lv_i2l hx hb dL_addSkill_10 rfl ?_
  refine mq_last hx hb hK hM hS z38 (vp_in_nI (n := 0) (by decide) (by decide)) dL_addSkill_11 (fun f_1 H locs e_2 hM hS => ?_)
  rw [show (0 : Int32).toNatClampNeg = 0 from rfl] at e_2
  have h_3 : f_1 (ad 38 0 0) = some (.inl (G.2 1, 1, .inr (.inl (vp_updL O.1 0 r7.toInt64)))) := mq_s e_2
  have hR8 := WR_o8 hR9 hk9.2.2.1 e_2
  refine lv_goto (tgt := 23) hx hb dL_addSkill_12 (by decide) ?_
  refine lv_iconst (v := 0) hx hb dL_addSkill_23 (by decide) ?_
  exact mq_iret (v := 0) hx hb hr hlocks hM hS (⟨0, r7, S9, X9, _, ad9, e7, rfl, by decide, fun _ => rfl, hR8, hO9, hk9⟩) dL_addSkill_24

set_option maxHeartbeats 4000000 in
set_option maxRecDepth 100000 in
theorem c_L_addNeed (l : Launch) (hfl : l.stackTraces = false) (G : mq_G) (A : Nat → Prop) (f : mq_F) (ad : AD) (S : AT) (X : CX) (S2 : AT) (Y : MX) (O : OX) (T : Nat) (ua ub : Int32) : Met l yL_addNeed wsL_addNeed ({ frames := 9, cells := 3, slots := 18, locals := 164 } : Room) (lq_Pc G A f (WR G f ad S X S2 Y O ∧ cOK S X T ∧ T < 512) [.ref (ad 0 0 0), .int ua, .int ub, .ref (ad 38 0 0)]) (mq_Qi G A (fun r g => ∃ c9 v S9 X9 O9 ad9, spNeed S ua ub = (c9, v, S9) ∧ r = nI c9 ∧ c9 ≤ 3 ∧ (c9 = 0 → O9.1 0 = (if v = 0 then 0 else 1 : Int64)) ∧ WR G g ad9 S9 X9 S2 Y O9 ∧ cOK S9 X9 (T + 1) ∧ adK ad ad9)) 3 18 A := by
  refine lq_ofWH (cc := cL_addNeed) (maxL := 5) (ret := (some .int)) (hh := [(0, 17, 20, 21), (0, 17, 24, 13)]) (by decide) rfl ?_
  intro p e s m args below meth c s₁ B hml hv
  obtain ⟨rfl, ⟨⟨hK, hZ, hM, hA⟩, hN⟩, hp⟩ := hv
  have hx := B.exec
  have hb := B.bytes
  have hr := B.returns
  have hts := atoms_spec (ws := wsL_addNeed) B.pre
  have hown : s.vm.findClass RL = some m.cls := findClass_of_methodNamed B.named
  have ht9 := vx_table (x := yL_addNeed) B (hts _ List.mem_cons_self)
  have hlocks := B.notSynchronized
  have hS : va_S A s.heap s.heap [] := va_S.rf
  have hl := lv_entry ([.ref (ad 0 0 0), .int ua, .int ub, .ref (ad 38 0 0)]) (n := 5) (Nat.le_of_ble_eq_true rfl)
  rw [lg_entry_eq]
  generalize (lg_sl ([.ref (ad 0 0 0), .int ua, .int ub, .ref (ad 38 0 0)]) ++ List.replicate (5 - (lg_sl ([.ref (ad 0 0 0), .int ua, .int ub, .ref (ad 38 0 0)])).length) Slot.unset).toArray = ls at hl ⊢
  have hl : lv_has ls 5 [(0, .ref (ad 0 0 0)), (1, .int ua), (2, .int ub), (3, .ref (ad 38 0 0))] := hl
  have w0 := hts (.classLink RL 21 "java/lang/IndexOutOfBoundsException") (List.mem_of_getElem? (i := 1) rfl)
  have w1 := hts (.classLink RL 13 "java/lang/IllegalArgumentException") (List.mem_of_getElem? (i := 2) rfl)
  obtain ⟨hR, hO, hT5⟩ := hp
  have y0 := hR.1 _ _ _ _ t0
  have y38 := hR.1 38 0 0 _ t38
  refine lv_aload_n hx hb dL_addNeed_0 rfl (lv_at hl 3 rfl) ?_
  refine lv_iconst (v := 0) hx hb dL_addNeed_1 (by decide) ?_
  refine lv_aload_n hx hb dL_addNeed_2 rfl (lv_at hl 0 rfl) ?_
  refine lv_iload_n hx hb dL_addNeed_3 rfl (lv_at hl 1 rfl) ?_
  refine lv_iload_n hx hb dL_addNeed_4 rfl (lv_at hl 2 rfl) ?_
  refine mq_xcalli (vx_runV (As := [.int ua, .int ub]) (rest := [.int 0, .ref (ad 38 0 0)]) ⟨hx, hb, hml, hown, hts⟩ (c_X7_addNeed l hfl G A f ad S X S2 Y O T ua ub) (cwV 2 hts gL_addNeed_X7_addNeed rfl rfl rfl (by decide +kernel) ⟨Nat.le_of_ble_eq_true rfl, Nat.le_of_ble_eq_true rfl⟩) (mq_preV hK hZ hS hA hM (q := (RX7, TX7, 6)) y0 rfl (⟨hR, hO, hT5⟩) _) rfl rfl hl.1 rfl (lv_room (Nat.le_of_ble_eq_true rfl)) dL_addNeed_5 ⟨Nat.le_of_ble_eq_true rfl, Nat.le_of_ble_eq_true rfl⟩) hS (fun E ce q9 g5 H locs p5 hM hS hce hcv hcl => ?_) (fun r5 g5 H locs p5 hM hS => ?_)
  · obtain ⟨rfl, hx9⟩ := p5
    rcases hx9 with ⟨hc9, rfl⟩ | ⟨hc9, rfl⟩
    · refine vx_catch (name := "java/lang/IndexOutOfBoundsException") hown [] ⟨0, 17, 20, 21⟩ [⟨0, 17, 24, 13⟩] (ht9.trans rfl) (fun z hz => (by cases hz)) (by decide) (by decide) w0 (va_Nw.use rfl (mq_cast hZ (by decide))) hce hcv hcl ?_
      refine W.eq (g2 := F0 m 20 ls [.ref q9]) rfl ?_
      refine W.widen (k := 3) (n := 18) (Nat.le_of_ble_eq_true rfl) (Nat.le_of_ble_eq_true rfl) ?_
      refine lv_astore (lv' := [(4, .ref q9), (0, .ref (ad 0 0 0)), (1, .int ua), (2, .int ub), (3, .ref (ad 38 0 0))]) hx hb dL_addNeed_20 hl (by decide) rfl (fun ls hl => ?_)
      refine lv_iconst (v := 1) hx hb dL_addNeed_22 (by decide) ?_
      exact mq_iret (v := 1) hx hb hr hlocks hM hS (⟨1, (spNeed S ua ub).2.1, S, X, O, ad, Prod.ext hc9 (Prod.ext rfl (st_need (by rw [hc9]; decide))), rfl, by decide, fun h => absurd h (by decide), hR, ok_mono hO hT5, adK_id⟩) dL_addNeed_23
    · refine vx_catch (name := "java/lang/IllegalArgumentException") hown [⟨0, 17, 20, 21⟩] ⟨0, 17, 24, 13⟩ [] (ht9.trans rfl) (fun z hz => (by rw [List.mem_singleton] at hz; subst hz; exact Or.inr ⟨by decide, "java/lang/IndexOutOfBoundsException", w0, hN ("java/lang/IllegalArgumentException", "java/lang/IndexOutOfBoundsException") (by decide)⟩)) (by decide) (by decide) w1 (va_Nw.use rfl (mq_cast hZ (by decide))) hce hcv hcl ?_
      refine W.eq (g2 := F0 m 24 ls [.ref q9]) rfl ?_
      refine W.widen (k := 3) (n := 18) (Nat.le_of_ble_eq_true rfl) (Nat.le_of_ble_eq_true rfl) ?_
      refine lv_astore (lv' := [(4, .ref q9), (0, .ref (ad 0 0 0)), (1, .int ua), (2, .int ub), (3, .ref (ad 38 0 0))]) hx hb dL_addNeed_24 hl (by decide) rfl (fun ls hl => ?_)
      refine lv_iconst (v := 2) hx hb dL_addNeed_26 (by decide) ?_
      exact mq_iret (v := 2) hx hb hr hlocks hM hS (⟨2, (spNeed S ua ub).2.1, S, X, O, ad, Prod.ext hc9 (Prod.ext rfl (st_need (by rw [hc9]; decide))), rfl, by decide, fun h => absurd h (by decide), hR, ok_mono hO hT5, adK_id⟩) dL_addNeed_27
  refine W.widen (k := 3) (n := 18) (Nat.le_of_ble_eq_true rfl) (Nat.le_of_ble_eq_true rfl) ?_
  obtain ⟨S9, X9, e7, hR9, hO9⟩ := p5
  have z38 := hR9.1 38 0 0 _ t38
  refine lv_if_eq (tgt := 15) hx hb dL_addNeed_8 (by decide) (fun c_8 => ?_) (fun c_8 => ?_)
  · refine lv_lconst (v := 0) hx hb dL_addNeed_15 (by decide) ?_
    refine mq_last hx hb hK hM hS z38 (vp_in_nI (n := 0) (by decide) (by decide)) dL_addNeed_16 (fun f_1 H locs e_2 hM hS => ?_)
    rw [show (0 : Int32).toNatClampNeg = 0 from rfl] at e_2
    have h_3 : f_1 (ad 38 0 0) = some (.inl (G.2 1, 1, .inr (.inl (vp_updL O.1 0 0)))) := mq_s e_2
    have hR8 := WR_o8 hR9 rfl e_2
    refine lv_goto (tgt := 28) hx hb dL_addNeed_17 (by decide) ?_
    refine lv_iconst (v := 0) hx hb dL_addNeed_28 (by decide) ?_
    exact mq_iret (v := 0) hx hb hr hlocks hM hS (⟨0, r5, S9, X9, _, ad, e7, rfl, by decide, fun _ => by rw [if_pos c_8]; rfl, hR8, hO9, adK_id⟩) dL_addNeed_29
  · refine lv_lconst (v := 1) hx hb dL_addNeed_11 (by decide) ?_
    refine lv_goto (tgt := 16) hx hb dL_addNeed_12 (by decide) ?_
    refine mq_last hx hb hK hM hS z38 (vp_in_nI (n := 0) (by decide) (by decide)) dL_addNeed_16 (fun f_4 H locs e_5 hM hS => ?_)
    rw [show (0 : Int32).toNatClampNeg = 0 from rfl] at e_5
    have h_6 : f_4 (ad 38 0 0) = some (.inl (G.2 1, 1, .inr (.inl (vp_updL O.1 0 1)))) := mq_s e_5
    have hR8 := WR_o8 hR9 rfl e_5
    refine lv_goto (tgt := 28) hx hb dL_addNeed_17 (by decide) ?_
    refine lv_iconst (v := 0) hx hb dL_addNeed_28 (by decide) ?_
    exact mq_iret (v := 0) hx hb hr hlocks hM hS (⟨0, r5, S9, X9, _, ad, e7, rfl, by decide, fun _ => by rw [if_neg c_8]; rfl, hR8, hO9, adK_id⟩) dL_addNeed_29

set_option maxHeartbeats 4000000 in
set_option maxRecDepth 100000 in
theorem c_L_addLearner (l : Launch) (hfl : l.stackTraces = false) (G : mq_G) (A : Nat → Prop) (f : mq_F) (ad : AD) (S : AT) (X : CX) (S2 : AT) (Y : MX) (O : OX) (T : Nat) : Met l yL_addLearner wsL_addLearner ({ frames := 8, cells := 24, slots := 174, locals := 140 } : Room) (lq_Pc G A f (WR G f ad S X S2 Y O ∧ cOK S X T ∧ T < 512) [.ref (ad 0 0 0), .ref (ad 38 0 0)]) (mq_Qi G A (fun r g => ∃ c9 v S9 X9 O9 ad9, spLearner S = (c9, v, S9) ∧ r = nI c9 ∧ c9 ≤ 3 ∧ (c9 = 0 → O9.1 0 = (v).toInt64) ∧ WR G g ad9 S9 X9 S2 Y O9 ∧ cOK S9 X9 (T + 1) ∧ adK ad ad9)) 24 174 A := by
  refine lq_ofWH (cc := cL_addLearner) (maxL := 3) (ret := (some .int)) (hh := [(0, 8, 11, 15)]) (by decide) rfl ?_
  intro p e s m args below meth c s₁ B hml hv
  obtain ⟨rfl, ⟨⟨hK, hZ, hM, hA⟩, hN⟩, hp⟩ := hv
  have hx := B.exec
  have hb := B.bytes
  have hr := B.returns
  have hts := atoms_spec (ws := wsL_addLearner) B.pre
  have hown : s.vm.findClass RL = some m.cls := findClass_of_methodNamed B.named
  have ht9 := vx_table (x := yL_addLearner) B (hts _ List.mem_cons_self)
  have hlocks := B.notSynchronized
  have hS : va_S A s.heap s.heap [] := va_S.rf
  have hl := lv_entry ([.ref (ad 0 0 0), .ref (ad 38 0 0)]) (n := 3) (Nat.le_of_ble_eq_true rfl)
  rw [lg_entry_eq]
  generalize (lg_sl ([.ref (ad 0 0 0), .ref (ad 38 0 0)]) ++ List.replicate (3 - (lg_sl ([.ref (ad 0 0 0), .ref (ad 38 0 0)])).length) Slot.unset).toArray = ls at hl ⊢
  have hl : lv_has ls 3 [(0, .ref (ad 0 0 0)), (1, .ref (ad 38 0 0))] := hl
  have w0 := hts (.classLink RL 15 "java/lang/IllegalStateException") (List.mem_of_getElem? (i := 1) rfl)
  obtain ⟨hR, hO, hT5⟩ := hp
  have y0 := hR.1 _ _ _ _ t0
  have y38 := hR.1 38 0 0 _ t38
  refine lv_aload_n hx hb dL_addLearner_0 rfl (lv_at hl 1 rfl) ?_
  refine lv_iconst (v := 0) hx hb dL_addLearner_1 (by decide) ?_
  refine lv_aload_n hx hb dL_addLearner_2 rfl (lv_at hl 0 rfl) ?_
  refine mq_xcalli (vx_runV (As := []) (rest := [.int 0, .ref (ad 38 0 0)]) ⟨hx, hb, hml, hown, hts⟩ (c_X7_addLearner l hfl G A f ad S X S2 Y O T) (cwV 0 hts gL_addLearner_X7_addLearner rfl rfl rfl (by decide +kernel) ⟨Nat.le_of_ble_eq_true rfl, Nat.le_of_ble_eq_true rfl⟩) (mq_preV hK hZ hS hA hM (q := (RX7, TX7, 6)) y0 rfl (⟨hR, hO, hT5⟩) _) rfl rfl hl.1 rfl (lv_room (Nat.le_of_ble_eq_true rfl)) dL_addLearner_3 ⟨Nat.le_of_ble_eq_true rfl, Nat.le_of_ble_eq_true rfl⟩) hS (fun E ce q9 g3 H locs p3 hM hS hce hcv hcl => ?_) (fun r3 g3 H locs p3 hM hS => ?_)
  · obtain ⟨rfl, hx9⟩ := p3
    obtain ⟨hc9, rfl⟩ := hx9
    refine vx_catch (name := "java/lang/IllegalStateException") hown [] ⟨0, 8, 11, 15⟩ [] (ht9.trans rfl) (fun z hz => (by cases hz)) (by decide) (by decide) w0 (va_Nw.use rfl (mq_cast hZ (by decide))) hce hcv hcl ?_
    refine W.eq (g2 := F0 m 11 ls [.ref q9]) rfl ?_
    refine W.widen (k := 24) (n := 174) (Nat.le_of_ble_eq_true rfl) (Nat.le_of_ble_eq_true rfl) ?_
    refine lv_astore_n (lv' := [(2, .ref q9), (0, .ref (ad 0 0 0)), (1, .ref (ad 38 0 0))]) hx hb dL_addLearner_11 rfl hl (by decide) rfl (fun ls hl => ?_)
    refine lv_iconst (v := 1) hx hb dL_addLearner_12 (by decide) ?_
    exact mq_iret (v := 1) hx hb hr hlocks hM hS (⟨1, (spLearner S).2.1, S, X, O, ad, Prod.ext hc9 (Prod.ext rfl (st_learner (by rw [hc9]; decide))), rfl, by decide, fun h => absurd h (by decide), hR, ok_mono hO hT5, adK_id⟩) dL_addLearner_13
  refine W.widen (k := 24) (n := 174) (Nat.le_of_ble_eq_true rfl) (Nat.le_of_ble_eq_true rfl) ?_
  obtain ⟨S9, X9, ad9, e7, hR9, hO9, hk9⟩ := p3
  have z38 : g3 (ad 38 0 0) = some (.inl (G.2 1, 1, .inr (.inl O.1))) := by rw [← hk9.2.2.1]; exact hR9.1 38 0 0 _ t38
  refine lv_i2l hx hb dL_addLearner_6 rfl ?_
  refine mq_last hx hb hK hM hS z38 (vp_in_nI (n := 0) (by decide) (by decide)) dL_addLearner_7 (fun f_1 H locs e_2 hM hS => ?_)
  rw [show (0 : Int32).toNatClampNeg = 0 from rfl] at e_2
  have h_3 : f_1 (ad 38 0 0) = some (.inl (G.2 1, 1, .inr (.inl (vp_updL O.1 0 r3.toInt64)))) := mq_s e_2
  have hR8 := WR_o8 hR9 hk9.2.2.1 e_2
  refine lv_goto (tgt := 14) hx hb dL_addLearner_8 (by decide) ?_
  refine lv_iconst (v := 0) hx hb dL_addLearner_14 (by decide) ?_
  exact mq_iret (v := 0) hx hb hr hlocks hM hS (⟨0, r3, S9, X9, _, ad9, e7, rfl, by decide, fun _ => rfl, hR8, hO9, hk9⟩) dL_addLearner_15

set_option maxHeartbeats 4000000 in
set_option maxRecDepth 100000 in
theorem c_L_open (l : Launch) (hfl : l.stackTraces = false) (G : mq_G) (A : Nat → Prop) (f : mq_F) (ad : AD) (S : AT) (X : CX) (S2 : AT) (Y : MX) (O : OX) (T : Nat) (ua ub : Int32) : Met l yL_open wsL_open ({ frames := 9, cells := 2, slots := 12, locals := 165 } : Room) (lq_Pc G A f (WR G f ad S X S2 Y O ∧ cOK S X T ∧ T < 512) [.ref (ad 0 0 0), .int ua, .int ub, .ref (ad 38 0 0)]) (mq_Qi G A (fun r g => ∃ c9 v S9 X9 O9 ad9, spOpen S ua ub = (c9, v, S9) ∧ r = nI c9 ∧ c9 ≤ 3 ∧ (c9 = 0 → O9.1 0 = (if v = 0 then 0 else 1 : Int64)) ∧ WR G g ad9 S9 X9 S2 Y O9 ∧ cOK S9 X9 (T + 1) ∧ adK ad ad9)) 2 12 A := by
  refine lq_ofWH (cc := cL_open) (maxL := 5) (ret := (some .int)) (hh := [(0, 17, 20, 21)]) (by decide) rfl ?_
  intro p e s m args below meth c s₁ B hml hv
  obtain ⟨rfl, ⟨⟨hK, hZ, hM, hA⟩, hN⟩, hp⟩ := hv
  have hx := B.exec
  have hb := B.bytes
  have hr := B.returns
  have hts := atoms_spec (ws := wsL_open) B.pre
  have hown : s.vm.findClass RL = some m.cls := findClass_of_methodNamed B.named
  have ht9 := vx_table (x := yL_open) B (hts _ List.mem_cons_self)
  have hlocks := B.notSynchronized
  have hS : va_S A s.heap s.heap [] := va_S.rf
  have hl := lv_entry ([.ref (ad 0 0 0), .int ua, .int ub, .ref (ad 38 0 0)]) (n := 5) (Nat.le_of_ble_eq_true rfl)
  rw [lg_entry_eq]
  generalize (lg_sl ([.ref (ad 0 0 0), .int ua, .int ub, .ref (ad 38 0 0)]) ++ List.replicate (5 - (lg_sl ([.ref (ad 0 0 0), .int ua, .int ub, .ref (ad 38 0 0)])).length) Slot.unset).toArray = ls at hl ⊢
  have hl : lv_has ls 5 [(0, .ref (ad 0 0 0)), (1, .int ua), (2, .int ub), (3, .ref (ad 38 0 0))] := hl
  have w0 := hts (.classLink RL 21 "java/lang/IndexOutOfBoundsException") (List.mem_of_getElem? (i := 1) rfl)
  obtain ⟨hR, hO, hT5⟩ := hp
  have y0 := hR.1 _ _ _ _ t0
  have y38 := hR.1 38 0 0 _ t38
  refine lv_aload_n hx hb dL_open_0 rfl (lv_at hl 3 rfl) ?_
  refine lv_iconst (v := 0) hx hb dL_open_1 (by decide) ?_
  refine lv_aload_n hx hb dL_open_2 rfl (lv_at hl 0 rfl) ?_
  refine lv_iload_n hx hb dL_open_3 rfl (lv_at hl 1 rfl) ?_
  refine lv_iload_n hx hb dL_open_4 rfl (lv_at hl 2 rfl) ?_
  refine mq_xcalli (vx_runV (As := [.int ua, .int ub]) (rest := [.int 0, .ref (ad 38 0 0)]) ⟨hx, hb, hml, hown, hts⟩ (c_X7_open l hfl G A f ad S X S2 Y O T ua ub) (cwV 2 hts gL_open_X7_open rfl rfl rfl (by decide +kernel) ⟨Nat.le_of_ble_eq_true rfl, Nat.le_of_ble_eq_true rfl⟩) (mq_preV hK hZ hS hA hM (q := (RX7, TX7, 6)) y0 rfl (⟨hR, hO, hT5⟩) _) rfl rfl hl.1 rfl (lv_room (Nat.le_of_ble_eq_true rfl)) dL_open_5 ⟨Nat.le_of_ble_eq_true rfl, Nat.le_of_ble_eq_true rfl⟩) hS (fun E ce q9 g5 H locs p5 hM hS hce hcv hcl => ?_) (fun r5 g5 H locs p5 hM hS => ?_)
  · obtain ⟨rfl, hx9⟩ := p5
    obtain ⟨hc9, rfl⟩ := hx9
    refine vx_catch (name := "java/lang/IndexOutOfBoundsException") hown [] ⟨0, 17, 20, 21⟩ [] (ht9.trans rfl) (fun z hz => (by cases hz)) (by decide) (by decide) w0 (va_Nw.use rfl (mq_cast hZ (by decide))) hce hcv hcl ?_
    refine W.eq (g2 := F0 m 20 ls [.ref q9]) rfl ?_
    refine W.widen (k := 2) (n := 12) (Nat.le_of_ble_eq_true rfl) (Nat.le_of_ble_eq_true rfl) ?_
    refine lv_astore (lv' := [(4, .ref q9), (0, .ref (ad 0 0 0)), (1, .int ua), (2, .int ub), (3, .ref (ad 38 0 0))]) hx hb dL_open_20 hl (by decide) rfl (fun ls hl => ?_)
    refine lv_iconst (v := 1) hx hb dL_open_22 (by decide) ?_
    exact mq_iret (v := 1) hx hb hr hlocks hM hS (⟨1, (spOpen S ua ub).2.1, S, X, O, ad, Prod.ext hc9 (Prod.ext rfl (st_open (by rw [hc9]; decide))), rfl, by decide, fun h => absurd h (by decide), hR, ok_mono hO hT5, adK_id⟩) dL_open_23
  refine W.widen (k := 2) (n := 12) (Nat.le_of_ble_eq_true rfl) (Nat.le_of_ble_eq_true rfl) ?_
  obtain ⟨S9, X9, e7, hR9, hO9⟩ := p5
  have z38 := hR9.1 38 0 0 _ t38
  refine lv_if_eq (tgt := 15) hx hb dL_open_8 (by decide) (fun c_8 => ?_) (fun c_8 => ?_)
  · refine lv_lconst (v := 0) hx hb dL_open_15 (by decide) ?_
    refine mq_last hx hb hK hM hS z38 (vp_in_nI (n := 0) (by decide) (by decide)) dL_open_16 (fun f_1 H locs e_2 hM hS => ?_)
    rw [show (0 : Int32).toNatClampNeg = 0 from rfl] at e_2
    have h_3 : f_1 (ad 38 0 0) = some (.inl (G.2 1, 1, .inr (.inl (vp_updL O.1 0 0)))) := mq_s e_2
    have hR8 := WR_o8 hR9 rfl e_2
    refine lv_goto (tgt := 24) hx hb dL_open_17 (by decide) ?_
    refine lv_iconst (v := 0) hx hb dL_open_24 (by decide) ?_
    exact mq_iret (v := 0) hx hb hr hlocks hM hS (⟨0, r5, S9, X9, _, ad, e7, rfl, by decide, fun _ => by rw [if_pos c_8]; rfl, hR8, hO9, adK_id⟩) dL_open_25
  · refine lv_lconst (v := 1) hx hb dL_open_11 (by decide) ?_
    refine lv_goto (tgt := 16) hx hb dL_open_12 (by decide) ?_
    refine mq_last hx hb hK hM hS z38 (vp_in_nI (n := 0) (by decide) (by decide)) dL_open_16 (fun f_4 H locs e_5 hM hS => ?_)
    rw [show (0 : Int32).toNatClampNeg = 0 from rfl] at e_5
    have h_6 : f_4 (ad 38 0 0) = some (.inl (G.2 1, 1, .inr (.inl (vp_updL O.1 0 1)))) := mq_s e_5
    have hR8 := WR_o8 hR9 rfl e_5
    refine lv_goto (tgt := 24) hx hb dL_open_17 (by decide) ?_
    refine lv_iconst (v := 0) hx hb dL_open_24 (by decide) ?_
    exact mq_iret (v := 0) hx hb hr hlocks hM hS (⟨0, r5, S9, X9, _, ad, e7, rfl, by decide, fun _ => by rw [if_neg c_8]; rfl, hR8, hO9, adK_id⟩) dL_open_25

set_option maxHeartbeats 4000000 in
set_option maxRecDepth 100000 in
theorem c_L_isOpen (l : Launch) (hfl : l.stackTraces = false) (G : mq_G) (A : Nat → Prop) (f : mq_F) (ad : AD) (S : AT) (X : CX) (S2 : AT) (Y : MX) (O : OX) (T : Nat) (ua ub : Int32) : Met l yL_isOpen wsL_isOpen ({ frames := 9, cells := 2, slots := 12, locals := 164 } : Room) (lq_Pc G A f (WR G f ad S X S2 Y O ∧ cOK S X T ∧ T < 512) [.ref (ad 0 0 0), .int ua, .int ub, .ref (ad 38 0 0)]) (mq_Qi G A (fun r g => ∃ c9 v O9, spIsOpen S ua ub = (c9, v) ∧ r = nI c9 ∧ c9 ≤ 3 ∧ (c9 = 0 → O9.1 0 = (if v = 0 then 0 else 1 : Int64)) ∧ WR G g ad S X S2 Y O9)) 2 12 A := by
  refine lq_ofWH (cc := cL_isOpen) (maxL := 5) (ret := (some .int)) (hh := [(0, 17, 20, 21)]) (by decide) rfl ?_
  intro p e s m args below meth c s₁ B hml hv
  obtain ⟨rfl, ⟨⟨hK, hZ, hM, hA⟩, hN⟩, hp⟩ := hv
  have hx := B.exec
  have hb := B.bytes
  have hr := B.returns
  have hts := atoms_spec (ws := wsL_isOpen) B.pre
  have hown : s.vm.findClass RL = some m.cls := findClass_of_methodNamed B.named
  have ht9 := vx_table (x := yL_isOpen) B (hts _ List.mem_cons_self)
  have hlocks := B.notSynchronized
  have hS : va_S A s.heap s.heap [] := va_S.rf
  have hl := lv_entry ([.ref (ad 0 0 0), .int ua, .int ub, .ref (ad 38 0 0)]) (n := 5) (Nat.le_of_ble_eq_true rfl)
  rw [lg_entry_eq]
  generalize (lg_sl ([.ref (ad 0 0 0), .int ua, .int ub, .ref (ad 38 0 0)]) ++ List.replicate (5 - (lg_sl ([.ref (ad 0 0 0), .int ua, .int ub, .ref (ad 38 0 0)])).length) Slot.unset).toArray = ls at hl ⊢
  have hl : lv_has ls 5 [(0, .ref (ad 0 0 0)), (1, .int ua), (2, .int ub), (3, .ref (ad 38 0 0))] := hl
  have w0 := hts (.classLink RL 21 "java/lang/IndexOutOfBoundsException") (List.mem_of_getElem? (i := 1) rfl)
  obtain ⟨hR, hO, hT5⟩ := hp
  have y0 := hR.1 _ _ _ _ t0
  have y38 := hR.1 38 0 0 _ t38
  refine lv_aload_n hx hb dL_isOpen_0 rfl (lv_at hl 3 rfl) ?_
  refine lv_iconst (v := 0) hx hb dL_isOpen_1 (by decide) ?_
  refine lv_aload_n hx hb dL_isOpen_2 rfl (lv_at hl 0 rfl) ?_
  refine lv_iload_n hx hb dL_isOpen_3 rfl (lv_at hl 1 rfl) ?_
  refine lv_iload_n hx hb dL_isOpen_4 rfl (lv_at hl 2 rfl) ?_
  refine mq_xcalli (vx_runV (As := [.int ua, .int ub]) (rest := [.int 0, .ref (ad 38 0 0)]) ⟨hx, hb, hml, hown, hts⟩ (c_X7_isOpen l hfl G A f ad S X S2 Y O T ua ub) (cwV 2 hts gL_isOpen_X7_isOpen rfl rfl rfl (by decide +kernel) ⟨Nat.le_of_ble_eq_true rfl, Nat.le_of_ble_eq_true rfl⟩) (mq_preV hK hZ hS hA hM (q := (RX7, TX7, 6)) y0 rfl (⟨hR, hO⟩) _) rfl rfl hl.1 rfl (lv_room (Nat.le_of_ble_eq_true rfl)) dL_isOpen_5 ⟨Nat.le_of_ble_eq_true rfl, Nat.le_of_ble_eq_true rfl⟩) hS (fun E ce q9 g5 H locs p5 hM hS hce hcv hcl => ?_) (fun r5 g5 H locs p5 hM hS => ?_)
  · obtain ⟨rfl, hx9⟩ := p5
    obtain ⟨hc9, rfl⟩ := hx9
    refine vx_catch (name := "java/lang/IndexOutOfBoundsException") hown [] ⟨0, 17, 20, 21⟩ [] (ht9.trans rfl) (fun z hz => (by cases hz)) (by decide) (by decide) w0 (va_Nw.use rfl (mq_cast hZ (by decide))) hce hcv hcl ?_
    refine W.eq (g2 := F0 m 20 ls [.ref q9]) rfl ?_
    refine W.widen (k := 2) (n := 12) (Nat.le_of_ble_eq_true rfl) (Nat.le_of_ble_eq_true rfl) ?_
    refine lv_astore (lv' := [(4, .ref q9), (0, .ref (ad 0 0 0)), (1, .int ua), (2, .int ub), (3, .ref (ad 38 0 0))]) hx hb dL_isOpen_20 hl (by decide) rfl (fun ls hl => ?_)
    refine lv_iconst (v := 1) hx hb dL_isOpen_22 (by decide) ?_
    exact mq_iret (v := 1) hx hb hr hlocks hM hS (⟨1, (spIsOpen S ua ub).2, O, Prod.ext hc9 rfl, rfl, by decide, fun h => absurd h (by decide), hR⟩) dL_isOpen_23
  refine W.widen (k := 2) (n := 12) (Nat.le_of_ble_eq_true rfl) (Nat.le_of_ble_eq_true rfl) ?_
  obtain ⟨rfl, e7⟩ := p5
  have hR9 := hR
  refine lv_if_eq (tgt := 15) hx hb dL_isOpen_8 (by decide) (fun c_8 => ?_) (fun c_8 => ?_)
  · refine lv_lconst (v := 0) hx hb dL_isOpen_15 (by decide) ?_
    refine mq_last hx hb hK hM hS y38 (vp_in_nI (n := 0) (by decide) (by decide)) dL_isOpen_16 (fun f_1 H locs e_2 hM hS => ?_)
    rw [show (0 : Int32).toNatClampNeg = 0 from rfl] at e_2
    have h_3 : f_1 (ad 0 0 0) = some (.inr (12, [.ref (ad 1 0 0), .ref (ad 2 0 0), .ref (ad 3 0 0), .int (nI (aN S)), .int (nI (aL S)), .int (nI (aD S))])) := mq_n e_2 y0 (mq_neA y0 y38)
    have h_4 : f_1 (ad 38 0 0) = some (.inl (G.2 1, 1, .inr (.inl (vp_updL O.1 0 0)))) := mq_s e_2
    have hR8 := WR_o8 hR9 rfl e_2
    refine lv_goto (tgt := 24) hx hb dL_isOpen_17 (by decide) ?_
    refine lv_iconst (v := 0) hx hb dL_isOpen_24 (by decide) ?_
    exact mq_iret (v := 0) hx hb hr hlocks hM hS (⟨0, r5, _, e7, rfl, by decide, fun _ => by rw [if_pos c_8]; rfl, hR8⟩) dL_isOpen_25
  · refine lv_lconst (v := 1) hx hb dL_isOpen_11 (by decide) ?_
    refine lv_goto (tgt := 16) hx hb dL_isOpen_12 (by decide) ?_
    refine mq_last hx hb hK hM hS y38 (vp_in_nI (n := 0) (by decide) (by decide)) dL_isOpen_16 (fun f_5 H locs e_6 hM hS => ?_)
    rw [show (0 : Int32).toNatClampNeg = 0 from rfl] at e_6
    have h_7 : f_5 (ad 0 0 0) = some (.inr (12, [.ref (ad 1 0 0), .ref (ad 2 0 0), .ref (ad 3 0 0), .int (nI (aN S)), .int (nI (aL S)), .int (nI (aD S))])) := mq_n e_6 y0 (mq_neA y0 y38)
    have h_8 : f_5 (ad 38 0 0) = some (.inl (G.2 1, 1, .inr (.inl (vp_updL O.1 0 1)))) := mq_s e_6
    have hR8 := WR_o8 hR9 rfl e_6
    refine lv_goto (tgt := 24) hx hb dL_isOpen_17 (by decide) ?_
    refine lv_iconst (v := 0) hx hb dL_isOpen_24 (by decide) ?_
    exact mq_iret (v := 0) hx hb hr hlocks hM hS (⟨0, r5, _, e7, rfl, by decide, fun _ => by rw [if_neg c_8]; rfl, hR8⟩) dL_isOpen_25

set_option maxHeartbeats 4000000 in
set_option maxRecDepth 100000 in
theorem c_L_setOdds (l : Launch) (hfl : l.stackTraces = false) (G : mq_G) (A : Nat → Prop) (f : mq_F) (ad : AD) (S : AT) (X : CX) (S2 : AT) (Y : MX) (O : OX) (T : Nat) (ua ub uc : Int32) : Met l yL_setOdds wsL_setOdds ({ frames := 10, cells := 3, slots := 18, locals := 189 } : Room) (lq_Pc G A f (WR G f ad S X S2 Y O ∧ cOK S X T ∧ T < 512) [.ref (ad 0 0 0), .int ua, .int ub, .int uc, .ref (ad 38 0 0)]) (mq_Qi G A (fun r g => ∃ c9 v S9 X9 O9 ad9, spSet S ua ub uc = (c9, v, S9) ∧ r = nI c9 ∧ c9 ≤ 3 ∧ (c9 = 0 → O9.1 0 = (v).toInt64) ∧ WR G g ad9 S9 X9 S2 Y O9 ∧ cOK S9 X9 (T + 1) ∧ adK ad ad9)) 3 18 A := by
  refine lq_ofWH (cc := cL_setOdds) (maxL := 6) (ret := (some .int)) (hh := [(0, 12, 15, 21), (0, 12, 19, 13)]) (by decide) rfl ?_
  intro p e s m args below meth c s₁ B hml hv
  obtain ⟨rfl, ⟨⟨hK, hZ, hM, hA⟩, hN⟩, hp⟩ := hv
  have hx := B.exec
  have hb := B.bytes
  have hr := B.returns
  have hts := atoms_spec (ws := wsL_setOdds) B.pre
  have hown : s.vm.findClass RL = some m.cls := findClass_of_methodNamed B.named
  have ht9 := vx_table (x := yL_setOdds) B (hts _ List.mem_cons_self)
  have hlocks := B.notSynchronized
  have hS : va_S A s.heap s.heap [] := va_S.rf
  have hl := lv_entry ([.ref (ad 0 0 0), .int ua, .int ub, .int uc, .ref (ad 38 0 0)]) (n := 6) (Nat.le_of_ble_eq_true rfl)
  rw [lg_entry_eq]
  generalize (lg_sl ([.ref (ad 0 0 0), .int ua, .int ub, .int uc, .ref (ad 38 0 0)]) ++ List.replicate (6 - (lg_sl ([.ref (ad 0 0 0), .int ua, .int ub, .int uc, .ref (ad 38 0 0)])).length) Slot.unset).toArray = ls at hl ⊢
  have hl : lv_has ls 6 [(0, .ref (ad 0 0 0)), (1, .int ua), (2, .int ub), (3, .int uc), (4, .ref (ad 38 0 0))] := hl
  have w0 := hts (.classLink RL 21 "java/lang/IndexOutOfBoundsException") (List.mem_of_getElem? (i := 1) rfl)
  have w1 := hts (.classLink RL 13 "java/lang/IllegalArgumentException") (List.mem_of_getElem? (i := 2) rfl)
  obtain ⟨hR, hO, hT5⟩ := hp
  have y0 := hR.1 _ _ _ _ t0
  have y38 := hR.1 38 0 0 _ t38
  refine lv_aload hx hb dL_setOdds_0 (lv_at hl 4 rfl) ?_
  refine lv_iconst (v := 0) hx hb dL_setOdds_2 (by decide) ?_
  refine lv_aload_n hx hb dL_setOdds_3 rfl (lv_at hl 0 rfl) ?_
  refine lv_iload_n hx hb dL_setOdds_4 rfl (lv_at hl 1 rfl) ?_
  refine lv_iload_n hx hb dL_setOdds_5 rfl (lv_at hl 2 rfl) ?_
  refine lv_iload_n hx hb dL_setOdds_6 rfl (lv_at hl 3 rfl) ?_
  refine mq_xcalli (vx_runV (As := [.int ua, .int ub, .int uc]) (rest := [.int 0, .ref (ad 38 0 0)]) ⟨hx, hb, hml, hown, hts⟩ (c_X7_setOdds l hfl G A f ad S X S2 Y O T ua ub uc) (cwV 3 hts gL_setOdds_X7_setOdds rfl rfl rfl (by decide +kernel) ⟨Nat.le_of_ble_eq_true rfl, Nat.le_of_ble_eq_true rfl⟩) (mq_preV hK hZ hS hA hM (q := (RX7, TX7, 6)) y0 rfl (⟨hR, hO, hT5⟩) _) rfl rfl hl.1 rfl (lv_room (Nat.le_of_ble_eq_true rfl)) dL_setOdds_7 ⟨Nat.le_of_ble_eq_true rfl, Nat.le_of_ble_eq_true rfl⟩) hS (fun E ce q9 g7 H locs p7 hM hS hce hcv hcl => ?_) (fun r7 g7 H locs p7 hM hS => ?_)
  · obtain ⟨rfl, hx9⟩ := p7
    rcases hx9 with ⟨hc9, rfl⟩ | ⟨hc9, rfl⟩
    · refine vx_catch (name := "java/lang/IndexOutOfBoundsException") hown [] ⟨0, 12, 15, 21⟩ [⟨0, 12, 19, 13⟩] (ht9.trans rfl) (fun z hz => (by cases hz)) (by decide) (by decide) w0 (va_Nw.use rfl (mq_cast hZ (by decide))) hce hcv hcl ?_
      refine W.eq (g2 := F0 m 15 ls [.ref q9]) rfl ?_
      refine W.widen (k := 3) (n := 18) (Nat.le_of_ble_eq_true rfl) (Nat.le_of_ble_eq_true rfl) ?_
      refine lv_astore (lv' := [(5, .ref q9), (0, .ref (ad 0 0 0)), (1, .int ua), (2, .int ub), (3, .int uc), (4, .ref (ad 38 0 0))]) hx hb dL_setOdds_15 hl (by decide) rfl (fun ls hl => ?_)
      refine lv_iconst (v := 1) hx hb dL_setOdds_17 (by decide) ?_
      exact mq_iret (v := 1) hx hb hr hlocks hM hS (⟨1, (spSet S ua ub uc).2.1, S, X, O, ad, Prod.ext hc9 (Prod.ext rfl (st_set (by rw [hc9]; decide))), rfl, by decide, fun h => absurd h (by decide), hR, ok_mono hO hT5, adK_id⟩) dL_setOdds_18
    · refine vx_catch (name := "java/lang/IllegalArgumentException") hown [⟨0, 12, 15, 21⟩] ⟨0, 12, 19, 13⟩ [] (ht9.trans rfl) (fun z hz => (by rw [List.mem_singleton] at hz; subst hz; exact Or.inr ⟨by decide, "java/lang/IndexOutOfBoundsException", w0, hN ("java/lang/IllegalArgumentException", "java/lang/IndexOutOfBoundsException") (by decide)⟩)) (by decide) (by decide) w1 (va_Nw.use rfl (mq_cast hZ (by decide))) hce hcv hcl ?_
      refine W.eq (g2 := F0 m 19 ls [.ref q9]) rfl ?_
      refine W.widen (k := 3) (n := 18) (Nat.le_of_ble_eq_true rfl) (Nat.le_of_ble_eq_true rfl) ?_
      refine lv_astore (lv' := [(5, .ref q9), (0, .ref (ad 0 0 0)), (1, .int ua), (2, .int ub), (3, .int uc), (4, .ref (ad 38 0 0))]) hx hb dL_setOdds_19 hl (by decide) rfl (fun ls hl => ?_)
      refine lv_iconst (v := 2) hx hb dL_setOdds_21 (by decide) ?_
      exact mq_iret (v := 2) hx hb hr hlocks hM hS (⟨2, (spSet S ua ub uc).2.1, S, X, O, ad, Prod.ext hc9 (Prod.ext rfl (st_set (by rw [hc9]; decide))), rfl, by decide, fun h => absurd h (by decide), hR, ok_mono hO hT5, adK_id⟩) dL_setOdds_22
  refine W.widen (k := 3) (n := 18) (Nat.le_of_ble_eq_true rfl) (Nat.le_of_ble_eq_true rfl) ?_
  obtain ⟨S9, X9, e7, hR9, hO9⟩ := p7
  have z38 := hR9.1 38 0 0 _ t38
  refine lv_i2l hx hb dL_setOdds_10 rfl ?_
  refine mq_last hx hb hK hM hS z38 (vp_in_nI (n := 0) (by decide) (by decide)) dL_setOdds_11 (fun f_1 H locs e_2 hM hS => ?_)
  rw [show (0 : Int32).toNatClampNeg = 0 from rfl] at e_2
  have h_3 : f_1 (ad 38 0 0) = some (.inl (G.2 1, 1, .inr (.inl (vp_updL O.1 0 r7.toInt64)))) := mq_s e_2
  have hR8 := WR_o8 hR9 rfl e_2
  refine lv_goto (tgt := 23) hx hb dL_setOdds_12 (by decide) ?_
  refine lv_iconst (v := 0) hx hb dL_setOdds_23 (by decide) ?_
  exact mq_iret (v := 0) hx hb hr hlocks hM hS (⟨0, r7, S9, X9, _, ad, e7, rfl, by decide, fun _ => rfl, hR8, hO9, adK_id⟩) dL_setOdds_24

set_option maxHeartbeats 4000000 in
set_option maxRecDepth 100000 in
theorem c_L_answer (l : Launch) (hfl : l.stackTraces = false) (G : mq_G) (A : Nat → Prop) (f : mq_F) (ad : AD) (S : AT) (X : CX) (S2 : AT) (Y : MX) (O : OX) (T : Nat) (ua ub : Int32) (z : Bool) : Met l yL_answer wsL_answer ({ frames := 9, cells := 3, slots := 18, locals := 166 } : Room) (lq_Pc G A f (WR G f ad S X S2 Y O ∧ cOK S X T ∧ T < 512) [.ref (ad 0 0 0), .int ua, .int ub, .int (zb z), .ref (ad 38 0 0)]) (mq_Qi G A (fun r g => ∃ c9 v S9 X9 O9 ad9, spAnswer S ua ub z = (c9, v, S9) ∧ r = nI c9 ∧ c9 ≤ 3 ∧ (c9 = 0 → O9.1 0 = (v).toInt64) ∧ WR G g ad9 S9 X9 S2 Y O9 ∧ cOK S9 X9 (T + 1) ∧ adK ad ad9)) 3 18 A := by
  refine lq_ofWH (cc := cL_answer) (maxL := 6) (ret := (some .int)) (hh := [(0, 12, 15, 21), (0, 12, 19, 15)]) (by decide) rfl ?_
  intro p e s m args below meth c s₁ B hml hv
  obtain ⟨rfl, ⟨⟨hK, hZ, hM, hA⟩, hN⟩, hp⟩ := hv
  have hx := B.exec
  have hb := B.bytes
  have hr := B.returns
  have hts := atoms_spec (ws := wsL_answer) B.pre
  have hown : s.vm.findClass RL = some m.cls := findClass_of_methodNamed B.named
  have ht9 := vx_table (x := yL_answer) B (hts _ List.mem_cons_self)
  have hlocks := B.notSynchronized
  have hS : va_S A s.heap s.heap [] := va_S.rf
  have hl := lv_entry ([.ref (ad 0 0 0), .int ua, .int ub, .int (zb z), .ref (ad 38 0 0)]) (n := 6) (Nat.le_of_ble_eq_true rfl)
  rw [lg_entry_eq]
  generalize (lg_sl ([.ref (ad 0 0 0), .int ua, .int ub, .int (zb z), .ref (ad 38 0 0)]) ++ List.replicate (6 - (lg_sl ([.ref (ad 0 0 0), .int ua, .int ub, .int (zb z), .ref (ad 38 0 0)])).length) Slot.unset).toArray = ls at hl ⊢
  have hl : lv_has ls 6 [(0, .ref (ad 0 0 0)), (1, .int ua), (2, .int ub), (3, .int (zb z)), (4, .ref (ad 38 0 0))] := hl
  have w0 := hts (.classLink RL 21 "java/lang/IndexOutOfBoundsException") (List.mem_of_getElem? (i := 1) rfl)
  have w1 := hts (.classLink RL 15 "java/lang/IllegalStateException") (List.mem_of_getElem? (i := 2) rfl)
  obtain ⟨hR, hO, hT5⟩ := hp
  have y0 := hR.1 _ _ _ _ t0
  have y38 := hR.1 38 0 0 _ t38
  refine lv_aload hx hb dL_answer_0 (lv_at hl 4 rfl) ?_
  refine lv_iconst (v := 0) hx hb dL_answer_2 (by decide) ?_
  refine lv_aload_n hx hb dL_answer_3 rfl (lv_at hl 0 rfl) ?_
  refine lv_iload_n hx hb dL_answer_4 rfl (lv_at hl 1 rfl) ?_
  refine lv_iload_n hx hb dL_answer_5 rfl (lv_at hl 2 rfl) ?_
  refine lv_iload_n hx hb dL_answer_6 rfl (lv_at hl 3 rfl) ?_
  refine mq_xcalli (vx_runV (As := [.int ua, .int ub, .int (zb z)]) (rest := [.int 0, .ref (ad 38 0 0)]) ⟨hx, hb, hml, hown, hts⟩ (c_X7_answer l hfl G A f ad S X S2 Y O T ua ub z) (cwV 3 hts gL_answer_X7_answer rfl rfl rfl (by decide +kernel) ⟨Nat.le_of_ble_eq_true rfl, Nat.le_of_ble_eq_true rfl⟩) (mq_preV hK hZ hS hA hM (q := (RX7, TX7, 6)) y0 rfl (⟨hR, hO, hT5⟩) _) rfl rfl hl.1 rfl (lv_room (Nat.le_of_ble_eq_true rfl)) dL_answer_7 ⟨Nat.le_of_ble_eq_true rfl, Nat.le_of_ble_eq_true rfl⟩) hS (fun E ce q9 g7 H locs p7 hM hS hce hcv hcl => ?_) (fun r7 g7 H locs p7 hM hS => ?_)
  · obtain ⟨rfl, hx9⟩ := p7
    rcases hx9 with ⟨hc9, rfl⟩ | ⟨hc9, rfl⟩
    · refine vx_catch (name := "java/lang/IndexOutOfBoundsException") hown [] ⟨0, 12, 15, 21⟩ [⟨0, 12, 19, 15⟩] (ht9.trans rfl) (fun z hz => (by cases hz)) (by decide) (by decide) w0 (va_Nw.use rfl (mq_cast hZ (by decide))) hce hcv hcl ?_
      refine W.eq (g2 := F0 m 15 ls [.ref q9]) rfl ?_
      refine W.widen (k := 3) (n := 18) (Nat.le_of_ble_eq_true rfl) (Nat.le_of_ble_eq_true rfl) ?_
      refine lv_astore (lv' := [(5, .ref q9), (0, .ref (ad 0 0 0)), (1, .int ua), (2, .int ub), (3, .int (zb z)), (4, .ref (ad 38 0 0))]) hx hb dL_answer_15 hl (by decide) rfl (fun ls hl => ?_)
      refine lv_iconst (v := 1) hx hb dL_answer_17 (by decide) ?_
      exact mq_iret (v := 1) hx hb hr hlocks hM hS (⟨1, (spAnswer S ua ub z).2.1, S, X, O, ad, Prod.ext hc9 (Prod.ext rfl (st_answer (by rw [hc9]; decide))), rfl, by decide, fun h => absurd h (by decide), hR, ok_mono hO hT5, adK_id⟩) dL_answer_18
    · refine vx_catch (name := "java/lang/IllegalStateException") hown [⟨0, 12, 15, 21⟩] ⟨0, 12, 19, 15⟩ [] (ht9.trans rfl) (fun z hz => (by rw [List.mem_singleton] at hz; subst hz; exact Or.inr ⟨by decide, "java/lang/IndexOutOfBoundsException", w0, hN ("java/lang/IllegalStateException", "java/lang/IndexOutOfBoundsException") (by decide)⟩)) (by decide) (by decide) w1 (va_Nw.use rfl (mq_cast hZ (by decide))) hce hcv hcl ?_
      refine W.eq (g2 := F0 m 19 ls [.ref q9]) rfl ?_
      refine W.widen (k := 3) (n := 18) (Nat.le_of_ble_eq_true rfl) (Nat.le_of_ble_eq_true rfl) ?_
      refine lv_astore (lv' := [(5, .ref q9), (0, .ref (ad 0 0 0)), (1, .int ua), (2, .int ub), (3, .int (zb z)), (4, .ref (ad 38 0 0))]) hx hb dL_answer_19 hl (by decide) rfl (fun ls hl => ?_)
      refine lv_iconst (v := 2) hx hb dL_answer_21 (by decide) ?_
      exact mq_iret (v := 2) hx hb hr hlocks hM hS (⟨2, (spAnswer S ua ub z).2.1, S, X, O, ad, Prod.ext hc9 (Prod.ext rfl (st_answer (by rw [hc9]; decide))), rfl, by decide, fun h => absurd h (by decide), hR, ok_mono hO hT5, adK_id⟩) dL_answer_22
  refine W.widen (k := 3) (n := 18) (Nat.le_of_ble_eq_true rfl) (Nat.le_of_ble_eq_true rfl) ?_
  obtain ⟨S9, X9, e7, hR9, hO9⟩ := p7
  have z38 := hR9.1 38 0 0 _ t38
  refine lv_i2l hx hb dL_answer_10 rfl ?_
  refine mq_last hx hb hK hM hS z38 (vp_in_nI (n := 0) (by decide) (by decide)) dL_answer_11 (fun f_1 H locs e_2 hM hS => ?_)
  rw [show (0 : Int32).toNatClampNeg = 0 from rfl] at e_2
  have h_3 : f_1 (ad 38 0 0) = some (.inl (G.2 1, 1, .inr (.inl (vp_updL O.1 0 r7.toInt64)))) := mq_s e_2
  have hR8 := WR_o8 hR9 rfl e_2
  refine lv_goto (tgt := 23) hx hb dL_answer_12 (by decide) ?_
  refine lv_iconst (v := 0) hx hb dL_answer_23 (by decide) ?_
  exact mq_iret (v := 0) hx hb hr hlocks hM hS (⟨0, r7, S9, X9, _, ad, e7, rfl, by decide, fun _ => rfl, hR8, hO9, adK_id⟩) dL_answer_24

set_option maxHeartbeats 4000000 in
set_option maxRecDepth 100000 in
theorem c_L_odds (l : Launch) (hfl : l.stackTraces = false) (G : mq_G) (A : Nat → Prop) (f : mq_F) (ad : AD) (S : AT) (X : CX) (S2 : AT) (Y : MX) (O : OX) (T : Nat) (ua ub : Int32) : Met l yL_odds wsL_odds ({ frames := 10, cells := 2, slots := 12, locals := 186 } : Room) (lq_Pc G A f (WR G f ad S X S2 Y O ∧ cOK S X T ∧ T < 512) [.ref (ad 0 0 0), .int ua, .int ub, .ref (ad 38 0 0)]) (mq_Qi G A (fun r g => ∃ c9 v O9, spOdds S ua ub = (c9, v) ∧ r = nI c9 ∧ c9 ≤ 3 ∧ (c9 = 0 → O9.1 0 = (v).toInt64) ∧ WR G g ad S X S2 Y O9)) 2 12 A := by
  refine lq_ofWH (cc := cL_odds) (maxL := 5) (ret := (some .int)) (hh := [(0, 10, 13, 21)]) (by decide) rfl ?_
  intro p e s m args below meth c s₁ B hml hv
  obtain ⟨rfl, ⟨⟨hK, hZ, hM, hA⟩, hN⟩, hp⟩ := hv
  have hx := B.exec
  have hb := B.bytes
  have hr := B.returns
  have hts := atoms_spec (ws := wsL_odds) B.pre
  have hown : s.vm.findClass RL = some m.cls := findClass_of_methodNamed B.named
  have ht9 := vx_table (x := yL_odds) B (hts _ List.mem_cons_self)
  have hlocks := B.notSynchronized
  have hS : va_S A s.heap s.heap [] := va_S.rf
  have hl := lv_entry ([.ref (ad 0 0 0), .int ua, .int ub, .ref (ad 38 0 0)]) (n := 5) (Nat.le_of_ble_eq_true rfl)
  rw [lg_entry_eq]
  generalize (lg_sl ([.ref (ad 0 0 0), .int ua, .int ub, .ref (ad 38 0 0)]) ++ List.replicate (5 - (lg_sl ([.ref (ad 0 0 0), .int ua, .int ub, .ref (ad 38 0 0)])).length) Slot.unset).toArray = ls at hl ⊢
  have hl : lv_has ls 5 [(0, .ref (ad 0 0 0)), (1, .int ua), (2, .int ub), (3, .ref (ad 38 0 0))] := hl
  have w0 := hts (.classLink RL 21 "java/lang/IndexOutOfBoundsException") (List.mem_of_getElem? (i := 1) rfl)
  obtain ⟨hR, hO, hT5⟩ := hp
  have y0 := hR.1 _ _ _ _ t0
  have y38 := hR.1 38 0 0 _ t38
  refine lv_aload_n hx hb dL_odds_0 rfl (lv_at hl 3 rfl) ?_
  refine lv_iconst (v := 0) hx hb dL_odds_1 (by decide) ?_
  refine lv_aload_n hx hb dL_odds_2 rfl (lv_at hl 0 rfl) ?_
  refine lv_iload_n hx hb dL_odds_3 rfl (lv_at hl 1 rfl) ?_
  refine lv_iload_n hx hb dL_odds_4 rfl (lv_at hl 2 rfl) ?_
  refine mq_xcalli (vx_runV (As := [.int ua, .int ub]) (rest := [.int 0, .ref (ad 38 0 0)]) ⟨hx, hb, hml, hown, hts⟩ (c_X7_odds l hfl G A f ad S X S2 Y O T ua ub) (cwV 2 hts gL_odds_X7_odds rfl rfl rfl (by decide +kernel) ⟨Nat.le_of_ble_eq_true rfl, Nat.le_of_ble_eq_true rfl⟩) (mq_preV hK hZ hS hA hM (q := (RX7, TX7, 6)) y0 rfl (⟨hR, hO⟩) _) rfl rfl hl.1 rfl (lv_room (Nat.le_of_ble_eq_true rfl)) dL_odds_5 ⟨Nat.le_of_ble_eq_true rfl, Nat.le_of_ble_eq_true rfl⟩) hS (fun E ce q9 g5 H locs p5 hM hS hce hcv hcl => ?_) (fun r5 g5 H locs p5 hM hS => ?_)
  · obtain ⟨rfl, hx9⟩ := p5
    obtain ⟨hc9, rfl⟩ := hx9
    refine vx_catch (name := "java/lang/IndexOutOfBoundsException") hown [] ⟨0, 10, 13, 21⟩ [] (ht9.trans rfl) (fun z hz => (by cases hz)) (by decide) (by decide) w0 (va_Nw.use rfl (mq_cast hZ (by decide))) hce hcv hcl ?_
    refine W.eq (g2 := F0 m 13 ls [.ref q9]) rfl ?_
    refine W.widen (k := 2) (n := 12) (Nat.le_of_ble_eq_true rfl) (Nat.le_of_ble_eq_true rfl) ?_
    refine lv_astore (lv' := [(4, .ref q9), (0, .ref (ad 0 0 0)), (1, .int ua), (2, .int ub), (3, .ref (ad 38 0 0))]) hx hb dL_odds_13 hl (by decide) rfl (fun ls hl => ?_)
    refine lv_iconst (v := 1) hx hb dL_odds_15 (by decide) ?_
    exact mq_iret (v := 1) hx hb hr hlocks hM hS (⟨1, (spOdds S ua ub).2, O, Prod.ext hc9 rfl, rfl, by decide, fun h => absurd h (by decide), hR⟩) dL_odds_16
  refine W.widen (k := 2) (n := 12) (Nat.le_of_ble_eq_true rfl) (Nat.le_of_ble_eq_true rfl) ?_
  obtain ⟨rfl, e7⟩ := p5
  have hR9 := hR
  refine lv_i2l hx hb dL_odds_8 rfl ?_
  refine mq_last hx hb hK hM hS y38 (vp_in_nI (n := 0) (by decide) (by decide)) dL_odds_9 (fun f_1 H locs e_2 hM hS => ?_)
  rw [show (0 : Int32).toNatClampNeg = 0 from rfl] at e_2
  have h_3 : f_1 (ad 0 0 0) = some (.inr (12, [.ref (ad 1 0 0), .ref (ad 2 0 0), .ref (ad 3 0 0), .int (nI (aN S)), .int (nI (aL S)), .int (nI (aD S))])) := mq_n e_2 y0 (mq_neA y0 y38)
  have h_4 : f_1 (ad 38 0 0) = some (.inl (G.2 1, 1, .inr (.inl (vp_updL O.1 0 r5.toInt64)))) := mq_s e_2
  have hR8 := WR_o8 hR9 rfl e_2
  refine lv_goto (tgt := 17) hx hb dL_odds_10 (by decide) ?_
  refine lv_iconst (v := 0) hx hb dL_odds_17 (by decide) ?_
  exact mq_iret (v := 0) hx hb hr hlocks hM hS (⟨0, r5, _, e7, rfl, by decide, fun _ => rfl, hR8⟩) dL_odds_18

set_option maxHeartbeats 4000000 in
set_option maxRecDepth 100000 in
theorem c_L_oddsAnew (l : Launch) (hfl : l.stackTraces = false) (G : mq_G) (A : Nat → Prop) (f : mq_F) (ad : AD) (S : AT) (X : CX) (S2 : AT) (Y : MX) (O : OX) (T : Nat) (ua ub : Int32) : Met l yL_oddsAnew wsL_oddsAnew ({ frames := 10, cells := 3, slots := 18, locals := 187 } : Room) (lq_Pc G A f (WR G f ad S X S2 Y O ∧ cOK S X T ∧ T < 512) [.ref (ad 0 0 0), .int ua, .int ub, .ref (ad 38 0 0)]) (mq_Qi G A (fun r g => ∃ c9 v O9, spOdds S ua ub = (c9, v) ∧ r = nI c9 ∧ c9 ≤ 3 ∧ (c9 = 0 → O9.1 0 = (v).toInt64) ∧ WR G g ad S X S2 Y O9)) 3 18 A := by
  refine lq_ofWH (cc := cL_oddsAnew) (maxL := 5) (ret := (some .int)) (hh := [(0, 10, 13, 21)]) (by decide) rfl ?_
  intro p e s m args below meth c s₁ B hml hv
  obtain ⟨rfl, ⟨⟨hK, hZ, hM, hA⟩, hN⟩, hp⟩ := hv
  have hx := B.exec
  have hb := B.bytes
  have hr := B.returns
  have hts := atoms_spec (ws := wsL_oddsAnew) B.pre
  have hown : s.vm.findClass RL = some m.cls := findClass_of_methodNamed B.named
  have ht9 := vx_table (x := yL_oddsAnew) B (hts _ List.mem_cons_self)
  have hlocks := B.notSynchronized
  have hS : va_S A s.heap s.heap [] := va_S.rf
  have hl := lv_entry ([.ref (ad 0 0 0), .int ua, .int ub, .ref (ad 38 0 0)]) (n := 5) (Nat.le_of_ble_eq_true rfl)
  rw [lg_entry_eq]
  generalize (lg_sl ([.ref (ad 0 0 0), .int ua, .int ub, .ref (ad 38 0 0)]) ++ List.replicate (5 - (lg_sl ([.ref (ad 0 0 0), .int ua, .int ub, .ref (ad 38 0 0)])).length) Slot.unset).toArray = ls at hl ⊢
  have hl : lv_has ls 5 [(0, .ref (ad 0 0 0)), (1, .int ua), (2, .int ub), (3, .ref (ad 38 0 0))] := hl
  have w0 := hts (.classLink RL 21 "java/lang/IndexOutOfBoundsException") (List.mem_of_getElem? (i := 1) rfl)
  obtain ⟨hR, hO, hT5⟩ := hp
  have y0 := hR.1 _ _ _ _ t0
  have y38 := hR.1 38 0 0 _ t38
  refine lv_aload_n hx hb dL_oddsAnew_0 rfl (lv_at hl 3 rfl) ?_
  refine lv_iconst (v := 0) hx hb dL_oddsAnew_1 (by decide) ?_
  refine lv_aload_n hx hb dL_oddsAnew_2 rfl (lv_at hl 0 rfl) ?_
  refine lv_iload_n hx hb dL_oddsAnew_3 rfl (lv_at hl 1 rfl) ?_
  refine lv_iload_n hx hb dL_oddsAnew_4 rfl (lv_at hl 2 rfl) ?_
  refine mq_xcalli (vx_runV (As := [.int ua, .int ub]) (rest := [.int 0, .ref (ad 38 0 0)]) ⟨hx, hb, hml, hown, hts⟩ (c_X7_oddsAnew l hfl G A f ad S X S2 Y O T ua ub) (cwV 2 hts gL_oddsAnew_X7_oddsAnew rfl rfl rfl (by decide +kernel) ⟨Nat.le_of_ble_eq_true rfl, Nat.le_of_ble_eq_true rfl⟩) (mq_preV hK hZ hS hA hM (q := (RX7, TX7, 6)) y0 rfl (⟨hR, hO⟩) _) rfl rfl hl.1 rfl (lv_room (Nat.le_of_ble_eq_true rfl)) dL_oddsAnew_5 ⟨Nat.le_of_ble_eq_true rfl, Nat.le_of_ble_eq_true rfl⟩) hS (fun E ce q9 g5 H locs p5 hM hS hce hcv hcl => ?_) (fun r5 g5 H locs p5 hM hS => ?_)
  · obtain ⟨rfl, hx9⟩ := p5
    obtain ⟨hc9, rfl⟩ := hx9
    refine vx_catch (name := "java/lang/IndexOutOfBoundsException") hown [] ⟨0, 10, 13, 21⟩ [] (ht9.trans rfl) (fun z hz => (by cases hz)) (by decide) (by decide) w0 (va_Nw.use rfl (mq_cast hZ (by decide))) hce hcv hcl ?_
    refine W.eq (g2 := F0 m 13 ls [.ref q9]) rfl ?_
    refine W.widen (k := 3) (n := 18) (Nat.le_of_ble_eq_true rfl) (Nat.le_of_ble_eq_true rfl) ?_
    refine lv_astore (lv' := [(4, .ref q9), (0, .ref (ad 0 0 0)), (1, .int ua), (2, .int ub), (3, .ref (ad 38 0 0))]) hx hb dL_oddsAnew_13 hl (by decide) rfl (fun ls hl => ?_)
    refine lv_iconst (v := 1) hx hb dL_oddsAnew_15 (by decide) ?_
    exact mq_iret (v := 1) hx hb hr hlocks hM hS (⟨1, (spOdds S ua ub).2, O, Prod.ext hc9 rfl, rfl, by decide, fun h => absurd h (by decide), hR⟩) dL_oddsAnew_16
  refine W.widen (k := 3) (n := 18) (Nat.le_of_ble_eq_true rfl) (Nat.le_of_ble_eq_true rfl) ?_
  obtain ⟨rfl, e7⟩ := p5
  have hR9 := hR
  refine lv_i2l hx hb dL_oddsAnew_8 rfl ?_
  refine mq_last hx hb hK hM hS y38 (vp_in_nI (n := 0) (by decide) (by decide)) dL_oddsAnew_9 (fun f_1 H locs e_2 hM hS => ?_)
  rw [show (0 : Int32).toNatClampNeg = 0 from rfl] at e_2
  have h_3 : f_1 (ad 0 0 0) = some (.inr (12, [.ref (ad 1 0 0), .ref (ad 2 0 0), .ref (ad 3 0 0), .int (nI (aN S)), .int (nI (aL S)), .int (nI (aD S))])) := mq_n e_2 y0 (mq_neA y0 y38)
  have h_4 : f_1 (ad 38 0 0) = some (.inl (G.2 1, 1, .inr (.inl (vp_updL O.1 0 r5.toInt64)))) := mq_s e_2
  have hR8 := WR_o8 hR9 rfl e_2
  refine lv_goto (tgt := 17) hx hb dL_oddsAnew_10 (by decide) ?_
  refine lv_iconst (v := 0) hx hb dL_oddsAnew_17 (by decide) ?_
  exact mq_iret (v := 0) hx hb hr hlocks hM hS (⟨0, r5, _, e7, rfl, by decide, fun _ => rfl, hR8⟩) dL_oddsAnew_18

set_option maxHeartbeats 4000000 in
set_option maxRecDepth 100000 in
theorem c_L_answers (l : Launch) (hfl : l.stackTraces = false) (G : mq_G) (A : Nat → Prop) (f : mq_F) (ad : AD) (S : AT) (X : CX) (S2 : AT) (Y : MX) (O : OX) (T : Nat) (ua ub : Int32) : Met l yL_answers wsL_answers ({ frames := 10, cells := 2, slots := 12, locals := 186 } : Room) (lq_Pc G A f (WR G f ad S X S2 Y O ∧ cOK S X T ∧ T < 512) [.ref (ad 0 0 0), .int ua, .int ub, .ref (ad 38 0 0)]) (mq_Qi G A (fun r g => ∃ c9 v O9, spAns S ua ub = (c9, v) ∧ r = nI c9 ∧ c9 ≤ 3 ∧ (c9 = 0 → O9.1 0 = (v).toInt64) ∧ WR G g ad S X S2 Y O9)) 2 12 A := by
  refine lq_ofWH (cc := cL_answers) (maxL := 5) (ret := (some .int)) (hh := [(0, 10, 13, 21)]) (by decide) rfl ?_
  intro p e s m args below meth c s₁ B hml hv
  obtain ⟨rfl, ⟨⟨hK, hZ, hM, hA⟩, hN⟩, hp⟩ := hv
  have hx := B.exec
  have hb := B.bytes
  have hr := B.returns
  have hts := atoms_spec (ws := wsL_answers) B.pre
  have hown : s.vm.findClass RL = some m.cls := findClass_of_methodNamed B.named
  have ht9 := vx_table (x := yL_answers) B (hts _ List.mem_cons_self)
  have hlocks := B.notSynchronized
  have hS : va_S A s.heap s.heap [] := va_S.rf
  have hl := lv_entry ([.ref (ad 0 0 0), .int ua, .int ub, .ref (ad 38 0 0)]) (n := 5) (Nat.le_of_ble_eq_true rfl)
  rw [lg_entry_eq]
  generalize (lg_sl ([.ref (ad 0 0 0), .int ua, .int ub, .ref (ad 38 0 0)]) ++ List.replicate (5 - (lg_sl ([.ref (ad 0 0 0), .int ua, .int ub, .ref (ad 38 0 0)])).length) Slot.unset).toArray = ls at hl ⊢
  have hl : lv_has ls 5 [(0, .ref (ad 0 0 0)), (1, .int ua), (2, .int ub), (3, .ref (ad 38 0 0))] := hl
  have w0 := hts (.classLink RL 21 "java/lang/IndexOutOfBoundsException") (List.mem_of_getElem? (i := 1) rfl)
  obtain ⟨hR, hO, hT5⟩ := hp
  have y0 := hR.1 _ _ _ _ t0
  have y38 := hR.1 38 0 0 _ t38
  refine lv_aload_n hx hb dL_answers_0 rfl (lv_at hl 3 rfl) ?_
  refine lv_iconst (v := 0) hx hb dL_answers_1 (by decide) ?_
  refine lv_aload_n hx hb dL_answers_2 rfl (lv_at hl 0 rfl) ?_
  refine lv_iload_n hx hb dL_answers_3 rfl (lv_at hl 1 rfl) ?_
  refine lv_iload_n hx hb dL_answers_4 rfl (lv_at hl 2 rfl) ?_
  refine mq_xcalli (vx_runV (As := [.int ua, .int ub]) (rest := [.int 0, .ref (ad 38 0 0)]) ⟨hx, hb, hml, hown, hts⟩ (c_X7_answers l hfl G A f ad S X S2 Y O T ua ub) (cwV 2 hts gL_answers_X7_answers rfl rfl rfl (by decide +kernel) ⟨Nat.le_of_ble_eq_true rfl, Nat.le_of_ble_eq_true rfl⟩) (mq_preV hK hZ hS hA hM (q := (RX7, TX7, 6)) y0 rfl (⟨hR, hO⟩) _) rfl rfl hl.1 rfl (lv_room (Nat.le_of_ble_eq_true rfl)) dL_answers_5 ⟨Nat.le_of_ble_eq_true rfl, Nat.le_of_ble_eq_true rfl⟩) hS (fun E ce q9 g5 H locs p5 hM hS hce hcv hcl => ?_) (fun r5 g5 H locs p5 hM hS => ?_)
  · obtain ⟨rfl, hx9⟩ := p5
    obtain ⟨hc9, rfl⟩ := hx9
    refine vx_catch (name := "java/lang/IndexOutOfBoundsException") hown [] ⟨0, 10, 13, 21⟩ [] (ht9.trans rfl) (fun z hz => (by cases hz)) (by decide) (by decide) w0 (va_Nw.use rfl (mq_cast hZ (by decide))) hce hcv hcl ?_
    refine W.eq (g2 := F0 m 13 ls [.ref q9]) rfl ?_
    refine W.widen (k := 2) (n := 12) (Nat.le_of_ble_eq_true rfl) (Nat.le_of_ble_eq_true rfl) ?_
    refine lv_astore (lv' := [(4, .ref q9), (0, .ref (ad 0 0 0)), (1, .int ua), (2, .int ub), (3, .ref (ad 38 0 0))]) hx hb dL_answers_13 hl (by decide) rfl (fun ls hl => ?_)
    refine lv_iconst (v := 1) hx hb dL_answers_15 (by decide) ?_
    exact mq_iret (v := 1) hx hb hr hlocks hM hS (⟨1, (spAns S ua ub).2, O, Prod.ext hc9 rfl, rfl, by decide, fun h => absurd h (by decide), hR⟩) dL_answers_16
  refine W.widen (k := 2) (n := 12) (Nat.le_of_ble_eq_true rfl) (Nat.le_of_ble_eq_true rfl) ?_
  obtain ⟨rfl, e7⟩ := p5
  have hR9 := hR
  refine lv_i2l hx hb dL_answers_8 rfl ?_
  refine mq_last hx hb hK hM hS y38 (vp_in_nI (n := 0) (by decide) (by decide)) dL_answers_9 (fun f_1 H locs e_2 hM hS => ?_)
  rw [show (0 : Int32).toNatClampNeg = 0 from rfl] at e_2
  have h_3 : f_1 (ad 0 0 0) = some (.inr (12, [.ref (ad 1 0 0), .ref (ad 2 0 0), .ref (ad 3 0 0), .int (nI (aN S)), .int (nI (aL S)), .int (nI (aD S))])) := mq_n e_2 y0 (mq_neA y0 y38)
  have h_4 : f_1 (ad 38 0 0) = some (.inl (G.2 1, 1, .inr (.inl (vp_updL O.1 0 r5.toInt64)))) := mq_s e_2
  have hR8 := WR_o8 hR9 rfl e_2
  refine lv_goto (tgt := 17) hx hb dL_answers_10 (by decide) ?_
  refine lv_iconst (v := 0) hx hb dL_answers_17 (by decide) ?_
  exact mq_iret (v := 0) hx hb hr hlocks hM hS (⟨0, r5, _, e7, rfl, by decide, fun _ => rfl, hR8⟩) dL_answers_18

set_option maxHeartbeats 4000000 in
set_option maxRecDepth 100000 in
theorem c_L_nextDay (l : Launch) (hfl : l.stackTraces = false) (G : mq_G) (A : Nat → Prop) (f : mq_F) (ad : AD) (S : AT) (X : CX) (S2 : AT) (Y : MX) (O : OX) (T : Nat) : Met l yL_nextDay wsL_nextDay ({ frames := 8, cells := 1, slots := 6, locals := 140 } : Room) (lq_Pc G A f (WR G f ad S X S2 Y O ∧ cOK S X T ∧ T < 512) [.ref (ad 0 0 0), .ref (ad 38 0 0)]) (mq_Qi G A (fun r g => ∃ c9 v S9 X9 O9 ad9, spDay S = (c9, v, S9) ∧ r = nI c9 ∧ c9 ≤ 3 ∧ (c9 = 0 → O9.1 0 = (v).toInt64) ∧ WR G g ad9 S9 X9 S2 Y O9 ∧ cOK S9 X9 (T + 1) ∧ adK ad ad9)) 1 6 A := by
  refine lq_ofWH (cc := cL_nextDay) (maxL := 3) (ret := (some .int)) (hh := [(0, 8, 11, 53)]) (by decide) rfl ?_
  intro p e s m args below meth c s₁ B hml hv
  obtain ⟨rfl, ⟨⟨hK, hZ, hM, hA⟩, hN⟩, hp⟩ := hv
  have hx := B.exec
  have hb := B.bytes
  have hr := B.returns
  have hts := atoms_spec (ws := wsL_nextDay) B.pre
  have hown : s.vm.findClass RL = some m.cls := findClass_of_methodNamed B.named
  have ht9 := vx_table (x := yL_nextDay) B (hts _ List.mem_cons_self)
  have hlocks := B.notSynchronized
  have hS : va_S A s.heap s.heap [] := va_S.rf
  have hl := lv_entry ([.ref (ad 0 0 0), .ref (ad 38 0 0)]) (n := 3) (Nat.le_of_ble_eq_true rfl)
  rw [lg_entry_eq]
  generalize (lg_sl ([.ref (ad 0 0 0), .ref (ad 38 0 0)]) ++ List.replicate (3 - (lg_sl ([.ref (ad 0 0 0), .ref (ad 38 0 0)])).length) Slot.unset).toArray = ls at hl ⊢
  have hl : lv_has ls 3 [(0, .ref (ad 0 0 0)), (1, .ref (ad 38 0 0))] := hl
  have w0 := hts (.classLink RL 53 "java/lang/ArithmeticException") (List.mem_of_getElem? (i := 1) rfl)
  obtain ⟨hR, hO, hT5⟩ := hp
  have y0 := hR.1 _ _ _ _ t0
  have y38 := hR.1 38 0 0 _ t38
  refine lv_aload_n hx hb dL_nextDay_0 rfl (lv_at hl 1 rfl) ?_
  refine lv_iconst (v := 0) hx hb dL_nextDay_1 (by decide) ?_
  refine lv_aload_n hx hb dL_nextDay_2 rfl (lv_at hl 0 rfl) ?_
  refine mq_xcalli (vx_runV (As := []) (rest := [.int 0, .ref (ad 38 0 0)]) ⟨hx, hb, hml, hown, hts⟩ (c_X7_nextDay l hfl G A f ad S X S2 Y O T) (cwV 0 hts gL_nextDay_X7_nextDay rfl rfl rfl (by decide +kernel) ⟨Nat.le_of_ble_eq_true rfl, Nat.le_of_ble_eq_true rfl⟩) (mq_preV hK hZ hS hA hM (q := (RX7, TX7, 6)) y0 rfl (⟨hR, hO, hT5⟩) _) rfl rfl hl.1 rfl (lv_room (Nat.le_of_ble_eq_true rfl)) dL_nextDay_3 ⟨Nat.le_of_ble_eq_true rfl, Nat.le_of_ble_eq_true rfl⟩) hS (fun E ce q9 g3 H locs p3 hM hS hce hcv hcl => ?_) (fun r3 g3 H locs p3 hM hS => ?_)
  · obtain ⟨rfl, hx9⟩ := p3
    obtain ⟨hc9, rfl⟩ := hx9
    refine vx_catch (name := "java/lang/ArithmeticException") hown [] ⟨0, 8, 11, 53⟩ [] (ht9.trans rfl) (fun z hz => (by cases hz)) (by decide) (by decide) w0 (va_Nw.use rfl (mq_cast hZ (by decide))) hce hcv hcl ?_
    refine W.eq (g2 := F0 m 11 ls [.ref q9]) rfl ?_
    refine W.widen (k := 1) (n := 6) (Nat.le_of_ble_eq_true rfl) (Nat.le_of_ble_eq_true rfl) ?_
    refine lv_astore_n (lv' := [(2, .ref q9), (0, .ref (ad 0 0 0)), (1, .ref (ad 38 0 0))]) hx hb dL_nextDay_11 rfl hl (by decide) rfl (fun ls hl => ?_)
    refine lv_iconst (v := 1) hx hb dL_nextDay_12 (by decide) ?_
    exact mq_iret (v := 1) hx hb hr hlocks hM hS (⟨1, (spDay S).2.1, S, X, O, ad, Prod.ext hc9 (Prod.ext rfl (st_day (by rw [hc9]; decide))), rfl, by decide, fun h => absurd h (by decide), hR, ok_mono hO hT5, adK_id⟩) dL_nextDay_13
  refine W.widen (k := 1) (n := 6) (Nat.le_of_ble_eq_true rfl) (Nat.le_of_ble_eq_true rfl) ?_
  obtain ⟨S9, X9, e7, hR9, hO9⟩ := p3
  have z38 := hR9.1 38 0 0 _ t38
  refine lv_i2l hx hb dL_nextDay_6 rfl ?_
  refine mq_last hx hb hK hM hS z38 (vp_in_nI (n := 0) (by decide) (by decide)) dL_nextDay_7 (fun f_1 H locs e_2 hM hS => ?_)
  rw [show (0 : Int32).toNatClampNeg = 0 from rfl] at e_2
  have h_3 : f_1 (ad 38 0 0) = some (.inl (G.2 1, 1, .inr (.inl (vp_updL O.1 0 r3.toInt64)))) := mq_s e_2
  have hR8 := WR_o8 hR9 rfl e_2
  refine lv_goto (tgt := 14) hx hb dL_nextDay_8 (by decide) ?_
  refine lv_iconst (v := 0) hx hb dL_nextDay_14 (by decide) ?_
  exact mq_iret (v := 0) hx hb hr hlocks hM hS (⟨0, r3, S9, X9, _, ad, e7, rfl, by decide, fun _ => rfl, hR8, hO9, adK_id⟩) dL_nextDay_15

set_option maxHeartbeats 4000000 in
set_option maxRecDepth 100000 in
theorem c_L_due (l : Launch) (hfl : l.stackTraces = false) (G : mq_G) (A : Nat → Prop) (f : mq_F) (ad : AD) (S : AT) (X : CX) (S2 : AT) (Y : MX) (O : OX) (T : Nat) (ua ub : Int32) : Met l yL_due wsL_due ({ frames := 10, cells := 3, slots := 18, locals := 187 } : Room) (lq_Pc G A f (WR G f ad S X S2 Y O ∧ cOK S X T ∧ T < 512) [.ref (ad 0 0 0), .int ua, .int ub, .ref (ad 38 0 0)]) (mq_Qi G A (fun r g => ∃ c9 v O9, spDue S ua ub = (c9, v) ∧ r = nI c9 ∧ c9 ≤ 3 ∧ (c9 = 0 → O9.1 0 = (v).toInt64) ∧ WR G g ad S X S2 Y O9)) 3 18 A := by
  refine lq_ofWH (cc := cL_due) (maxL := 5) (ret := (some .int)) (hh := [(0, 10, 13, 21), (0, 10, 17, 58)]) (by decide) rfl ?_
  intro p e s m args below meth c s₁ B hml hv
  obtain ⟨rfl, ⟨⟨hK, hZ, hM, hA⟩, hN⟩, hp⟩ := hv
  have hx := B.exec
  have hb := B.bytes
  have hr := B.returns
  have hts := atoms_spec (ws := wsL_due) B.pre
  have hown : s.vm.findClass RL = some m.cls := findClass_of_methodNamed B.named
  have ht9 := vx_table (x := yL_due) B (hts _ List.mem_cons_self)
  have hlocks := B.notSynchronized
  have hS : va_S A s.heap s.heap [] := va_S.rf
  have hl := lv_entry ([.ref (ad 0 0 0), .int ua, .int ub, .ref (ad 38 0 0)]) (n := 5) (Nat.le_of_ble_eq_true rfl)
  rw [lg_entry_eq]
  generalize (lg_sl ([.ref (ad 0 0 0), .int ua, .int ub, .ref (ad 38 0 0)]) ++ List.replicate (5 - (lg_sl ([.ref (ad 0 0 0), .int ua, .int ub, .ref (ad 38 0 0)])).length) Slot.unset).toArray = ls at hl ⊢
  have hl : lv_has ls 5 [(0, .ref (ad 0 0 0)), (1, .int ua), (2, .int ub), (3, .ref (ad 38 0 0))] := hl
  have w0 := hts (.classLink RL 21 "java/lang/IndexOutOfBoundsException") (List.mem_of_getElem? (i := 1) rfl)
  have w1 := hts (.classLink RL 58 "java/util/NoSuchElementException") (List.mem_of_getElem? (i := 2) rfl)
  obtain ⟨hR, hO, hT5⟩ := hp
  have y0 := hR.1 _ _ _ _ t0
  have y38 := hR.1 38 0 0 _ t38
  refine lv_aload_n hx hb dL_due_0 rfl (lv_at hl 3 rfl) ?_
  refine lv_iconst (v := 0) hx hb dL_due_1 (by decide) ?_
  refine lv_aload_n hx hb dL_due_2 rfl (lv_at hl 0 rfl) ?_
  refine lv_iload_n hx hb dL_due_3 rfl (lv_at hl 1 rfl) ?_
  refine lv_iload_n hx hb dL_due_4 rfl (lv_at hl 2 rfl) ?_
  refine mq_xcalli (vx_runV (As := [.int ua, .int ub]) (rest := [.int 0, .ref (ad 38 0 0)]) ⟨hx, hb, hml, hown, hts⟩ (c_X7_due l hfl G A f ad S X S2 Y O T ua ub) (cwV 2 hts gL_due_X7_due rfl rfl rfl (by decide +kernel) ⟨Nat.le_of_ble_eq_true rfl, Nat.le_of_ble_eq_true rfl⟩) (mq_preV hK hZ hS hA hM (q := (RX7, TX7, 6)) y0 rfl (⟨hR, hO⟩) _) rfl rfl hl.1 rfl (lv_room (Nat.le_of_ble_eq_true rfl)) dL_due_5 ⟨Nat.le_of_ble_eq_true rfl, Nat.le_of_ble_eq_true rfl⟩) hS (fun E ce q9 g5 H locs p5 hM hS hce hcv hcl => ?_) (fun r5 g5 H locs p5 hM hS => ?_)
  · obtain ⟨rfl, hx9⟩ := p5
    rcases hx9 with ⟨hc9, rfl⟩ | ⟨hc9, rfl⟩
    · refine vx_catch (name := "java/lang/IndexOutOfBoundsException") hown [] ⟨0, 10, 13, 21⟩ [⟨0, 10, 17, 58⟩] (ht9.trans rfl) (fun z hz => (by cases hz)) (by decide) (by decide) w0 (va_Nw.use rfl (mq_cast hZ (by decide))) hce hcv hcl ?_
      refine W.eq (g2 := F0 m 13 ls [.ref q9]) rfl ?_
      refine W.widen (k := 3) (n := 18) (Nat.le_of_ble_eq_true rfl) (Nat.le_of_ble_eq_true rfl) ?_
      refine lv_astore (lv' := [(4, .ref q9), (0, .ref (ad 0 0 0)), (1, .int ua), (2, .int ub), (3, .ref (ad 38 0 0))]) hx hb dL_due_13 hl (by decide) rfl (fun ls hl => ?_)
      refine lv_iconst (v := 1) hx hb dL_due_15 (by decide) ?_
      exact mq_iret (v := 1) hx hb hr hlocks hM hS (⟨1, (spDue S ua ub).2, O, Prod.ext hc9 rfl, rfl, by decide, fun h => absurd h (by decide), hR⟩) dL_due_16
    · refine vx_catch (name := "java/util/NoSuchElementException") hown [⟨0, 10, 13, 21⟩] ⟨0, 10, 17, 58⟩ [] (ht9.trans rfl) (fun z hz => (by rw [List.mem_singleton] at hz; subst hz; exact Or.inr ⟨by decide, "java/lang/IndexOutOfBoundsException", w0, hN ("java/util/NoSuchElementException", "java/lang/IndexOutOfBoundsException") (by decide)⟩)) (by decide) (by decide) w1 (va_Nw.use rfl (mq_cast hZ (by decide))) hce hcv hcl ?_
      refine W.eq (g2 := F0 m 17 ls [.ref q9]) rfl ?_
      refine W.widen (k := 3) (n := 18) (Nat.le_of_ble_eq_true rfl) (Nat.le_of_ble_eq_true rfl) ?_
      refine lv_astore (lv' := [(4, .ref q9), (0, .ref (ad 0 0 0)), (1, .int ua), (2, .int ub), (3, .ref (ad 38 0 0))]) hx hb dL_due_17 hl (by decide) rfl (fun ls hl => ?_)
      refine lv_iconst (v := 2) hx hb dL_due_19 (by decide) ?_
      exact mq_iret (v := 2) hx hb hr hlocks hM hS (⟨2, (spDue S ua ub).2, O, Prod.ext hc9 rfl, rfl, by decide, fun h => absurd h (by decide), hR⟩) dL_due_20
  refine W.widen (k := 3) (n := 18) (Nat.le_of_ble_eq_true rfl) (Nat.le_of_ble_eq_true rfl) ?_
  obtain ⟨rfl, e7⟩ := p5
  have hR9 := hR
  refine lv_i2l hx hb dL_due_8 rfl ?_
  refine mq_last hx hb hK hM hS y38 (vp_in_nI (n := 0) (by decide) (by decide)) dL_due_9 (fun f_1 H locs e_2 hM hS => ?_)
  rw [show (0 : Int32).toNatClampNeg = 0 from rfl] at e_2
  have h_3 : f_1 (ad 0 0 0) = some (.inr (12, [.ref (ad 1 0 0), .ref (ad 2 0 0), .ref (ad 3 0 0), .int (nI (aN S)), .int (nI (aL S)), .int (nI (aD S))])) := mq_n e_2 y0 (mq_neA y0 y38)
  have h_4 : f_1 (ad 38 0 0) = some (.inl (G.2 1, 1, .inr (.inl (vp_updL O.1 0 r5.toInt64)))) := mq_s e_2
  have hR8 := WR_o8 hR9 rfl e_2
  refine lv_goto (tgt := 21) hx hb dL_due_10 (by decide) ?_
  refine lv_iconst (v := 0) hx hb dL_due_21 (by decide) ?_
  exact mq_iret (v := 0) hx hb hr hlocks hM hS (⟨0, r5, _, e7, rfl, by decide, fun _ => rfl, hR8⟩) dL_due_22
