/-! THE REFERENCE: the mean of odds -/

set_option maxHeartbeats 4000000 in
set_option maxRecDepth 100000 in
theorem c_X11_meanOdds (l : Launch) (G : mq_G) (A : Nat → Prop) (f : mq_F) (ad : AD) (S : AT) (X : CX) (S2 : AT) (Y : MX) (O : OX) (T : Nat) (ui : Int32) : Met l yX11_meanOdds wsX11_meanOdds ({ frames := 9, cells := 1, slots := 4, locals := 162 } : Room) (mq_Pc G A f (WR G f ad S X S2 Y O ∧ mOK S2 Y T) [.ref (ad 20 0 0), .int ui]) (mq_Qd G A (fun r g => ∃ c9, spMean S2 ui = (c9, r) ∧ WR G g ad S X S2 (yThr Y (nI c9)) O)) 1 4 A := by
  refine Met.ofW (cc := cX11_meanOdds) (maxL := 5) (ret := (some .double)) (by decide) rfl ?_
  intro p e s m args below meth c s₁ B hml hv
  obtain ⟨rfl, ⟨hK, hZ, hM, hA⟩, hp⟩ := hv
  have hx := B.exec
  have hb := B.bytes
  have hr := B.returns
  have hts := atoms_spec (ws := wsX11_meanOdds) B.pre
  have hown : s.vm.findClass RX11 = some m.cls := findClass_of_methodNamed B.named
  have hlocks := B.notSynchronized
  have hS : va_S A s.heap s.heap [] := va_S.rf
  have hl := lv_entry ([.ref (ad 20 0 0), .int ui]) (n := 5) (Nat.le_of_ble_eq_true rfl)
  rw [lg_entry_eq]
  generalize (lg_sl ([.ref (ad 20 0 0), .int ui]) ++ List.replicate (5 - (lg_sl ([.ref (ad 20 0 0), .int ui])).length) Slot.unset).toArray = ls at hl ⊢
  have hl : lv_has ls 5 [(0, .ref (ad 20 0 0)), (1, .int ui)] := hl
  have w0 := hts (.fieldLink RX11 19 "TutorlightModel" "thrown" "I") (List.mem_of_getElem? (i := 1) rfl)
  have w1 := hts (.fieldLink RX11 16 "TutorlightModel" "learners" "Ljava/util/ArrayList;") (List.mem_of_getElem? (i := 2) rfl)
  have w2 := hts (.classLink RX11 46 "TutorlightModel$Learner") (List.mem_of_getElem? (i := 3) rfl)
  have w3 := hts (.fieldLink RX11 48 "TutorlightModel$Learner" "known" "[LTutorlightModel$Known;") (List.mem_of_getElem? (i := 4) rfl)
  have w4 := hts (.fieldLink RX11 81 "TutorlightModel$Known" "odds" "I") (List.mem_of_getElem? (i := 5) rfl)
  have nX11 : ∀ w ∈ wsX110, w ∈ wsX11_meanOdds := fun _ h => List.mem_cons_of_mem _ (List.mem_append_left _ (List.mem_append_left _ (List.mem_append_left _ (List.mem_append_left _ (List.mem_append_right _ h)))))
  have nX9 : ∀ w ∈ wsX90, w ∈ wsX11_meanOdds := fun _ h => List.mem_cons_of_mem _ (List.mem_append_left _ (List.mem_append_left _ (List.mem_append_left _ (List.mem_append_right _ h))))
  have nX8 : ∀ w ∈ wsX80, w ∈ wsX11_meanOdds := fun _ h => List.mem_cons_of_mem _ (List.mem_append_left _ (List.mem_append_left _ (List.mem_append_right _ h)))
  obtain ⟨hR, hO⟩ := hp
  obtain ⟨⟨X9, ⟨hn, hl4, hd2, hT⟩, hsk, hma, hdc, hle, -⟩, ⟨hns, hnc⟩, ⟨hls, hlc⟩, hac, hmc⟩ := id hO
  have y20_206 := hR.1 _ _ _ _ (t20)
  refine lv_aload_n hx hb dX11_meanOdds_0 rfl (lv_at hl 0 rfl) ?_
  refine lv_iconst (v := 0) hx hb dX11_meanOdds_1 (by decide) ?_
  refine mq_put (ci := 16) (v := .int 0) (ty := .int) (C := RX11) (T := TX11) (N := 4) (fs' := [.int 0, .int (nI (aD S2)), .ref (ad 21 0 0), .ref (ad 23 0 0)]) hx hb hts nX11 tyX11 tyX11_ok nmX11 hown hK hM hS y20_206 rfl 0 (by decide) w0 (fun _ h9 => h9) rfl (by decide +kernel) rfl rfl (Nat.le_of_ble_eq_true rfl) dX11_meanOdds_2 rfl (fun f_1 H locs e_2 hM hS => ?_)
  have h_3 : f_1 (ad 20 0 0) = some (.inr (16, [.int 0, .int (nI (aD S2)), .ref (ad 21 0 0), .ref (ad 23 0 0)])) := mq_s e_2
  have hR1 := WR_yt hR e_2
  have y21_197 := hR1.1 _ _ _ _ (t21)
  have y23_198 := hR1.1 _ _ _ _ (t23)
  refine lv_aload_n hx hb dX11_meanOdds_5 rfl (lv_at hl 0 rfl) ?_
  refine lv_aload_n hx hb dX11_meanOdds_6 rfl (lv_at hl 0 rfl) ?_
  refine lv_iload_n hx hb dX11_meanOdds_7 rfl (lv_at hl 1 rfl) ?_
  refine mq_calli (va_runV (As := [.int ui]) (rest := [.ref (ad 20 0 0)]) ⟨hx, hb, hml, hown, hts⟩ (c_X11_noSkill l G A f_1 (ad 20 0 0) (ad 21 0 0) ui 0 (nI (aD S2)) (ad 23 0 0) (lsD G (yS Y).2 (ad 22 0 0)) (aN S2) (yS Y).1) (cwV 1 hts gX11_meanOdds_X11_noSkill rfl rfl rfl (by decide +kernel) ⟨Nat.le_of_ble_eq_true rfl, Nat.le_of_ble_eq_true rfl⟩) (mq_preV hK hZ hS hA hM (q := (RX11, TX11, 4)) h_3 rfl (⟨h_3, y21_197, by omega⟩) _) rfl rfl hl.1 rfl (lv_room (Nat.le_of_ble_eq_true rfl)) dX11_meanOdds_8 ⟨Nat.le_of_ble_eq_true rfl, Nat.le_of_ble_eq_true rfl⟩) hS (fun r8 g8 H locs p8 hM hS => ?_)
  refine W.widen (k := 0) (n := 0) (Nat.le_of_ble_eq_true rfl) (Nat.le_of_ble_eq_true rfl) ?_
  obtain ⟨rfl, rfl⟩ := p8
  refine lv_iconst (v := 1) hx hb dX11_meanOdds_11 (by decide) ?_
  refine mq_calli (va_runV (As := [.int (zb (!vI ui (aN S2))), .int 1]) (rest := []) ⟨hx, hb, hml, hown, hts⟩ (c_X11_fails l G A f_1 (ad 20 0 0) (!vI ui (aN S2)) 1 0 (nI (aD S2)) (ad 21 0 0) (ad 23 0 0)) (cwV 2 hts gX11_meanOdds_X11_fails rfl rfl rfl (by decide +kernel) ⟨Nat.le_of_ble_eq_true rfl, Nat.le_of_ble_eq_true rfl⟩) (mq_preV hK hZ hS hA hM (q := (RX11, TX11, 4)) h_3 rfl (h_3) _) rfl rfl hl.1 rfl (lv_room (Nat.le_of_ble_eq_true rfl)) dX11_meanOdds_12 ⟨Nat.le_of_ble_eq_true rfl, Nat.le_of_ble_eq_true rfl⟩) hS (fun r12 g12 H locs p12 hM hS => ?_)
  refine W.widen (k := 0) (n := 0) (Nat.le_of_ble_eq_true rfl) (Nat.le_of_ble_eq_true rfl) ?_
  refine lv_if_ne (tgt := 33) hx hb dX11_meanOdds_15 (by decide) (fun c_15 => ?_) (fun c_15 => ?_)
  · obtain ⟨hv9, hg⟩ := fl_n p12 c_15
    refine lv_dconst0 hx hb dX11_meanOdds_33 ?_
    refine W.widen (k := 1) (n := 4) (Nat.le_of_ble_eq_true rfl) (Nat.le_of_ble_eq_true rfl) ?_
    exact mq_dret hx hb hr hlocks hM hS (⟨1, (spK_n (fun q => absurd (vI_iff.mpr q) (by rw [hv9]; decide))).trans rfl, by have q9 := WR_yt hR1 hg; exact q9⟩) dX11_meanOdds_34
  · obtain ⟨hv9, rfl⟩ := fl_y h_3 p12 (by decide) c_15
    obtain ⟨k, hk, rfl⟩ := vI_ex1 hv9
    refine lv_aload_n hx hb dX11_meanOdds_18 rfl (lv_at hl 0 rfl) ?_
    refine lv_aload_n hx hb dX11_meanOdds_19 rfl (lv_at hl 0 rfl) ?_
    refine mq_get (ci := 16) (v := .ref (ad 23 0 0)) (C := RX11) (T := TX11) (N := 4) hx hb hts nX11 hown hK hM h_3 rfl 3 (by decide) w1 (fun _ h9 => h9) rfl dX11_meanOdds_20 ?_
    refine mq_calli (va_runV (As := []) (rest := [.ref (ad 20 0 0)]) ⟨hx, hb, hml, hown, hts⟩ (c_Jx4a65c_isEmpty_aae02 l G A f_1 (ad 23 0 0) (yL Y).1 (lsD G (yL Y).2 (ad 24 0 0)) (aL S2)) (cwV 0 hts gX11_meanOdds_Jx4a65c_isEmpty_aae02 rfl rfl rfl (by decide +kernel) ⟨Nat.le_of_ble_eq_true rfl, Nat.le_of_ble_eq_true rfl⟩) (mq_preV hK hZ hS hA hM (q := (RJx4a65c, TJx4a65c, 3)) y23_198 rfl (⟨y23_198, by omega⟩) _) rfl rfl hl.1 rfl (lv_room (Nat.le_of_ble_eq_true rfl)) dX11_meanOdds_23 ⟨Nat.le_of_ble_eq_true rfl, Nat.le_of_ble_eq_true rfl⟩) hS (fun r23 g23 H locs p23 hM hS => ?_)
    refine W.widen (k := 0) (n := 0) (Nat.le_of_ble_eq_true rfl) (Nat.le_of_ble_eq_true rfl) ?_
    obtain ⟨rfl, rfl⟩ := p23
    rw [show decide (aL S2 = 0) = !decide (aL S2 ≠ 0) from by simp]
    refine lv_iconst (v := 2) hx hb dX11_meanOdds_26 (by decide) ?_
    refine mq_calli (va_runV (As := [.int (zb (!decide (aL S2 ≠ 0))), .int 2]) (rest := []) ⟨hx, hb, hml, hown, hts⟩ (c_X11_fails l G A f_1 (ad 20 0 0) (!decide (aL S2 ≠ 0)) 2 0 (nI (aD S2)) (ad 21 0 0) (ad 23 0 0)) (cwV 2 hts gX11_meanOdds_X11_fails rfl rfl rfl (by decide +kernel) ⟨Nat.le_of_ble_eq_true rfl, Nat.le_of_ble_eq_true rfl⟩) (mq_preV hK hZ hS hA hM (q := (RX11, TX11, 4)) h_3 rfl (h_3) _) rfl rfl hl.1 rfl (lv_room (Nat.le_of_ble_eq_true rfl)) dX11_meanOdds_27 ⟨Nat.le_of_ble_eq_true rfl, Nat.le_of_ble_eq_true rfl⟩) hS (fun r27 g27 H locs p27 hM hS => ?_)
    refine W.widen (k := 0) (n := 0) (Nat.le_of_ble_eq_true rfl) (Nat.le_of_ble_eq_true rfl) ?_
    refine lv_if_eq (tgt := 35) hx hb dX11_meanOdds_30 (by decide) (fun c_30 => ?_) (fun c_30 => ?_)
    · obtain ⟨hv8, rfl⟩ := fl_y h_3 p27 (by decide) c_30
      have h0 : aL S2 ≠ 0 := of_decide_eq_true hv8
      refine lv_iconst (v := 0) hx hb dX11_meanOdds_35 (by decide) ?_
      refine lv_istore_n (lv' := [(2, .int 0), (0, .ref (ad 20 0 0)), (1, .int (nI k))]) hx hb dX11_meanOdds_36 rfl hl (by decide) rfl (fun ls hl => ?_)
      refine lv_aload_n hx hb dX11_meanOdds_37 rfl (lv_at hl 1 rfl) ?_
      refine mq_get (ci := 16) (v := .ref (ad 23 0 0)) (C := RX11) (T := TX11) (N := 4) hx hb hts nX11 hown hK hM h_3 rfl 3 (by decide) w1 (fun _ h9 => h9) rfl dX11_meanOdds_38 ?_
      refine mq_callq (va_runV (As := []) (rest := []) ⟨hx, hb, hml, hown, hts⟩ (c_Jx4a65c_iterator_32c93 l G A f_1 (ad 23 0 0) (yL Y).1 (lsD G (yL Y).2 (ad 24 0 0)) (aL S2)) (cwV 0 hts gX11_meanOdds_Jx4a65c_iterator_32c93 rfl rfl rfl (by decide +kernel) ⟨Nat.le_of_ble_eq_true rfl, Nat.le_of_ble_eq_true rfl⟩) (mq_preV hK hZ hS hA hM (q := (RJx4a65c, TJx4a65c, 3)) y23_198 rfl (y23_198) _) rfl rfl hl.1 rfl (lv_room (Nat.le_of_ble_eq_true rfl)) dX11_meanOdds_41 ⟨Nat.le_of_ble_eq_true rfl, Nat.le_of_ble_eq_true rfl⟩) hS (fun r41 g41 H locs p41 hM hS => ?_)
      refine W.widen (k := 1) (n := 4) (Nat.le_of_ble_eq_true rfl) (Nat.le_of_ble_eq_true rfl) ?_
      obtain ⟨q41, er, hq41, hg41⟩ := p41
      subst er
      have h_4 : g41 (ad 20 0 0) = some (.inr (16, [.int 0, .int (nI (aD S2)), .ref (ad 21 0 0), .ref (ad 23 0 0)])) := mq_n hg41 h_3 (mq_neN h_3 hq41)
      have h_5 : g41 (ad 21 0 0) = some (.inr (4, [.int ((yS Y).1), .ref (lsD G (yS Y).2 (ad 22 0 0)), .int (nI (aN S2))])) := mq_n hg41 y21_197 (mq_neN y21_197 hq41)
      have h_6 : g41 (ad 23 0 0) = some (.inr (4, [.int ((yL Y).1), .ref (lsD G (yL Y).2 (ad 24 0 0)), .int (nI (aL S2))])) := mq_n hg41 y23_198 (mq_neN y23_198 hq41)
      have h_7 : g41 q41 = some (.inr (3, [.int 0, .int (-1), .int ((yL Y).1), .ref (ad 23 0 0)])) := mq_s hg41
      refine lv_astore_n (lv' := [(3, .ref q41), (2, .int 0), (0, .ref (ad 20 0 0)), (1, .int (nI k))]) hx hb dX11_meanOdds_44 rfl hl (by decide) rfl (fun ls hl => ?_)
      have K45 : ∀ (n9 : Nat) (j sm : Nat) (lr9 : Int32), (aL S2 - j) < n9 → (j ≤ aL S2) → (sm = smO S2 k j) → (sm ≤ 1000 * j) → ∀ (f9 : mq_F), f9 q41 = some (.inr (3, [.int (nI j), .int lr9, .int ((yL Y).1), .ref (ad 23 0 0)])) → (∀ y e, f_1 y = some e → f9 y = some e) → ∀ (H : Heap) (locs : List Loc), mq_W G.1 A f9 H → va_S A s.heap H locs → ∀ (ls : Array Slot), lv_has ls 5 [(0, .ref (ad 20 0 0)), (1, .int (nI k)), (2, .int (nI sm)), (3, .ref q41)] → W p l e (headSpec wsX11_meanOdds ({ frames := 9, cells := 1, slots := 4, locals := 162 } : Room)).room s m ([.ref (ad 20 0 0), .int (nI k)] : List Value).toArray below meth c H locs 1 4 (MQ below (mq_Qd G A (fun r g => ∃ c9, spMean S2 (nI k) = (c9, r) ∧ WR G g ad S X S2 (yThr Y (nI c9)) O)) ([.ref (ad 20 0 0), .int (nI k)] : List Value).toArray s 1 4 A) (F0 m 45 ls []) := by
        intro n9
        induction n9 with
        | zero => intro j sm lr9 hn9; exact absurd hn9 (Nat.not_lt_zero _)
        | succ n9 ih45 =>
          intro j sm lr9 hn9 hi hs9 hkb f9 hq9 hk9 H locs hM hS ls hl
          have hR9 := RR.mono hR1 hk9
          have y23_204 := hR9.1 _ _ _ _ (t23)
          have y20_205 := hR9.1 _ _ _ _ (t20)
          refine lv_aload_n hx hb dX11_meanOdds_45 rfl (lv_at hl 3 rfl) ?_
          refine mq_callFi (va_runF (hK.1 3 _ rfl).2 (As := []) (rest := []) ⟨hx, hb, hml, hown, hts⟩ (c_Jx35411_hasNext_aae02 l G A f9 q41 (ad 23 0 0) j lr9 (yL Y).1 (lsD G (yL Y).2 (ad 24 0 0)) (aL S2)) (va_cwF 0 hts gX11_meanOdds_Jx35411_hasNext_aae02_f138Jx35411 rfl rfl rfl (mq_itf hZ (by decide)) ⟨by decide, by decide, by decide +kernel⟩ ⟨Nat.le_of_ble_eq_true rfl, Nat.le_of_ble_eq_true rfl⟩) (mq_preV hK hZ hS hA hM (q := (RJx35411, TJx35411, 4)) hq9 rfl (⟨hq9, y23_204, by omega, by omega⟩) _) rfl rfl hl.1 rfl (lv_room (Nat.le_of_ble_eq_true rfl)) dX11_meanOdds_46 ⟨Nat.le_of_ble_eq_true rfl, Nat.le_of_ble_eq_true rfl⟩) hS (fun r46 g46 H locs p46 hM hS => ?_)
          refine W.widen (k := 1) (n := 4) (Nat.le_of_ble_eq_true rfl) (Nat.le_of_ble_eq_true rfl) ?_
          obtain ⟨rfl, rfl⟩ := p46
          refine lv_if_eq (tgt := 81) hx hb dX11_meanOdds_51 (by decide) (fun c_51 => ?_) (fun c_51 => ?_)
          · replace c_51 : zb (decide (j ≠ aL S2)) = 0 := c_51
            rw [zb_0] at c_51
            have hi2 : j = aL S2 := by simpa using c_51
            refine lv_iload_n hx hb dX11_meanOdds_81 rfl (lv_at hl 2 rfl) ?_
            refine lv_i2d hx hb dX11_meanOdds_82 ?_
            refine lv_aload_n hx hb dX11_meanOdds_83 rfl (lv_at hl 0 rfl) ?_
            refine mq_get (ci := 16) (v := .ref (ad 23 0 0)) (C := RX11) (T := TX11) (N := 4) hx hb hts nX11 hown hK hM y20_205 rfl 3 (by decide) w1 (fun _ h9 => h9) rfl dX11_meanOdds_84 ?_
            refine mq_calli (va_runV (As := []) (rest := [.double (FP.i2d (nI sm))]) ⟨hx, hb, hml, hown, hts⟩ (c_Jx4a65c_size_8abf5 l G A f9 (ad 23 0 0) (yL Y).1 (lsD G (yL Y).2 (ad 24 0 0)) (aL S2)) (cwV 0 hts gX11_meanOdds_Jx4a65c_size_8abf5 rfl rfl rfl (by decide +kernel) ⟨Nat.le_of_ble_eq_true rfl, Nat.le_of_ble_eq_true rfl⟩) (mq_preV hK hZ hS hA hM (q := (RJx4a65c, TJx4a65c, 3)) y23_204 rfl (y23_204) _) rfl rfl hl.1 rfl (lv_room (Nat.le_of_ble_eq_true rfl)) dX11_meanOdds_87 ⟨Nat.le_of_ble_eq_true rfl, Nat.le_of_ble_eq_true rfl⟩) hS (fun r87 g87 H locs p87 hM hS => ?_)
            refine W.widen (k := 1) (n := 4) (Nat.le_of_ble_eq_true rfl) (Nat.le_of_ble_eq_true rfl) ?_
            obtain ⟨rfl, rfl⟩ := p87
            refine lv_i2d hx hb dX11_meanOdds_90 ?_
            refine lv_ddiv hx hb dX11_meanOdds_91 (mn_nan (aL S2) (by omega) h0 sm (by omega)) ?_
            exact mq_dret hx hb hr hlocks hM hS (⟨0, (spK_y hk hn).trans ((if_neg h0).trans (by rw [hs9, hi2]; rfl)), hR9⟩) dX11_meanOdds_92
          · replace c_51 : ¬ zb (decide (j ≠ aL S2)) = 0 := c_51
            rw [zb_n0] at c_51
            have hi2 : j < aL S2 := Nat.lt_of_le_of_ne hi (by simpa using c_51)
            have hcl : (yL Y).2 ≠ 0 := by omega
            have y123_199 := hR9.1 _ _ _ _ (t123 hcl)
            have y24_200 := hR9.1 _ _ _ _ (t24 hcl)
            have y27_201 := hR9.1 _ _ _ _ (t27 (j := j) hi2)
            have y28_202 := hR9.1 _ _ _ _ (t28 (j := j) hi2)
            refine lv_aload_n hx hb dX11_meanOdds_54 rfl (lv_at hl 3 rfl) ?_
            refine mq_callFq (va_runF (hK.1 3 _ rfl).2 (As := []) (rest := []) ⟨hx, hb, hml, hown, hts⟩ (c_Jx35411_next_0502b l G A f9 q41 (ad 23 0 0) j lr9 (yL Y).1 (ad 24 0 0) (yL Y).2 (aL S2) (fun i => ad 27 i 0)) (va_cwF 0 hts gX11_meanOdds_Jx35411_next_0502b_f144Jx35411 rfl rfl rfl (mq_itf hZ (by decide)) ⟨by decide, by decide, by decide +kernel⟩ ⟨Nat.le_of_ble_eq_true rfl, Nat.le_of_ble_eq_true rfl⟩) (mq_preV hK hZ hS hA hM (q := (RJx35411, TJx35411, 4)) hq9 rfl (⟨hq9, y123_199, y24_200, hi2, hls, by omega⟩) _) rfl rfl hl.1 rfl (lv_room (Nat.le_of_ble_eq_true rfl)) dX11_meanOdds_55 ⟨Nat.le_of_ble_eq_true rfl, Nat.le_of_ble_eq_true rfl⟩) hS (fun r55 g55 H locs p55 hM hS => ?_)
            refine W.widen (k := 1) (n := 4) (Nat.le_of_ble_eq_true rfl) (Nat.le_of_ble_eq_true rfl) ?_
            obtain ⟨hg55, rfl⟩ := p55
            have hR8 := RR.mono hR1 (fun y e he => mq_n hg55 (hk9 y e he) (mq_neN he hq41))
            have h_8 : g55 (ad 23 0 0) = some (.inr (4, [.int ((yL Y).1), .ref (ad 24 0 0), .int (nI (aL S2))])) := mq_n hg55 y123_199 (mq_neN y23_198 hq41)
            have h_9 : g55 (ad 20 0 0) = some (.inr (16, [.int 0, .int (nI (aD S2)), .ref (ad 21 0 0), .ref (ad 23 0 0)])) := mq_n hg55 y20_205 (mq_neN h_3 hq41)
            have h_10 : g55 (ad 24 0 0) = some (.inl (G.2 8, (yL Y).2, .inr (.inr (.inr (.inr (rf_of (aL S2) (fun i => ad 27 i 0))))))) := mq_n hg55 y24_200 (mq_neB y24_200 hq9)
            have h_11 : g55 (ad 27 j 0) = some (.inr (14, [.ref (ad 28 j 0), .ref (ad 32 j 0), va_rf (oMap (lEx (aE S2 j)) (ad 35 j 0)), .int (nI ((exN (lEx (aE S2 j)) (yO Y j)).1)), .int (nI ((exN (lEx (aE S2 j)) (yO Y j)).2.1)), .int (nI ((exN (lEx (aE S2 j)) (yO Y j)).2.2)), va_rf (oMap (lWs (aE S2 j)) (ad 36 j 0)), va_rf (oMap (lWs (aE S2 j)) (ad 37 j 0))])) := mq_n hg55 y27_201 (mq_neO y27_201 hq9 (by decide))
            have h_12 : g55 (ad 28 j 0) = some (.inl (G.2 7, 10, .inr (.inr (.inr (.inr (rf_of 10 (fun i => ad 29 j i))))))) := mq_n hg55 y28_202 (mq_neB y28_202 hq9)
            have h_13 : g55 q41 = some (.inr (3, [.int (nI (j + 1)), .int (nI j), .int ((yL Y).1), .ref (ad 23 0 0)])) := mq_s hg55
            refine mq_castG hx hb hown w2 (mq_recv hK hM h_11 rfl) dX11_meanOdds_60 ?_
            refine lv_astore (lv' := [(4, .ref (ad 27 j 0)), (0, .ref (ad 20 0 0)), (1, .int (nI k)), (2, .int (nI sm)), (3, .ref q41)]) hx hb dX11_meanOdds_63 hl (by decide) rfl (fun ls hl => ?_)
            refine lv_iload_n hx hb dX11_meanOdds_65 rfl (lv_at hl 3 rfl) ?_
            refine lv_aload hx hb dX11_meanOdds_66 (lv_at hl 0 rfl) ?_
            refine mq_get (ci := 14) (v := .ref (ad 28 j 0)) (C := RX9) (T := TX9) (N := 8) hx hb hts nX9 hown hK hM h_11 rfl 0 (by decide) w3 (fun _ h9 => h9) rfl dX11_meanOdds_68 ?_
            refine lv_iload_n hx hb dX11_meanOdds_71 rfl (lv_at hl 2 rfl) ?_
            refine mq_aald (t0 := 7) (v := .ref (ad 29 j k)) hx hb hK hM rfl h_12 (vp_in_nI (by omega) (by omega)) (by rw [show (nI k : Int32).toNatClampNeg = k from nI_clamp (by omega)]; exact congrArg va_rf (rf_at (by omega))) dX11_meanOdds_72 ?_
            have m1 := (hma j k hi2 (by omega)).1
            have y29_203 := hR8.1 _ _ _ _ (t29 (j := j) (k := k) hi2 (by omega))
            refine mq_get (ci := 13) (v := .int (nI (mOd (aM S2 j k)))) (C := RX8) (T := TX8) (N := 6) hx hb hts nX8 hown hK hM y29_203 rfl 0 (by decide) w4 (fun _ h9 => h9) rfl dX11_meanOdds_73 ?_
            refine lv_iadd hx hb dX11_meanOdds_76 ?_
            rw [show (nI sm) + (nI (mOd (aM S2 j k))) = nI (sm + (mOd (aM S2 j k))) from nI_add _ _]
            refine lv_istore_n (lv' := [(2, .int (nI (sm + (mOd (aM S2 j k))))), (4, .ref (ad 27 j 0)), (0, .ref (ad 20 0 0)), (1, .int (nI k)), (3, .ref q41)]) hx hb dX11_meanOdds_77 rfl hl (by decide) rfl (fun ls hl => ?_)
            refine lv_goto (tgt := 45) hx hb dX11_meanOdds_78 (by decide) ?_
            exact W.widen (by omega) (by omega) (ih45 (j + 1) (sm + mOd (aM S2 j k)) (nI j) (by omega) (by omega) (by rw [hs9]; rfl) (by omega) _ h_13 (fun y e he => mq_n hg55 (hk9 y e he) (mq_neN he hq41)) _ _ hM hS _ (lv_sub hl [2, 3, 0, 4] rfl))
      exact W.widen (by omega) (by omega) (K45 _ 0 0 (-1) (Nat.lt_succ_self _) (Nat.zero_le _) (rfl) (Nat.le_refl _) _ h_7 (fun y e he => mq_n hg41 he (mq_neN he hq41)) _ _ hM hS _ (lv_sub hl [2, 3, 1, 0] rfl))
    · obtain ⟨hv8, hg⟩ := fl_n p27 c_30
      have h0 : aL S2 = 0 := by simpa using hv8
      refine lv_dconst0 hx hb dX11_meanOdds_33 ?_
      refine W.widen (k := 1) (n := 4) (Nat.le_of_ble_eq_true rfl) (Nat.le_of_ble_eq_true rfl) ?_
      exact mq_dret hx hb hr hlocks hM hS (⟨2, (spK_y hk hn).trans (if_pos h0), by have q9 := WR_yt hR1 hg; exact q9⟩) dX11_meanOdds_34
