/-! THE REFERENCE: the share of what is known -/

set_option maxHeartbeats 4000000 in
set_option maxRecDepth 100000 in
theorem c_X11_knownShare (l : Launch) (G : mq_G) (A : Nat → Prop) (f : mq_F) (ad : AD) (S : AT) (X : CX) (S2 : AT) (Y : MX) (O : OX) (T : Nat) : Met l yX11_knownShare wsX11_knownShare ({ frames := 9, cells := 1, slots := 4, locals := 162 } : Room) (mq_Pc G A f (WR G f ad S X S2 Y O ∧ mOK S2 Y T) [.ref (ad 20 0 0)]) (mq_Qf G A (fun r g => (aL S2 * aN S2 ≠ 0 ∧ r = shF S2 ∧ WR G g ad S X S2 (yThr Y 0) O) ∨ (aL S2 * aN S2 = 0 ∧ WR G g ad S X S2 (yThr Y 1) O))) 1 4 A := by
  refine Met.ofW (cc := cX11_knownShare) (maxL := 5) (ret := (some .float)) (by decide) rfl ?_
  intro p e s m args below meth c s₁ B hml hv
  obtain ⟨rfl, ⟨hK, hZ, hM, hA⟩, hp⟩ := hv
  have hx := B.exec
  have hb := B.bytes
  have hr := B.returns
  have hts := atoms_spec (ws := wsX11_knownShare) B.pre
  have hown : s.vm.findClass RX11 = some m.cls := findClass_of_methodNamed B.named
  have hlocks := B.notSynchronized
  have hS : va_S A s.heap s.heap [] := va_S.rf
  have hl := lv_entry ([.ref (ad 20 0 0)]) (n := 5) (Nat.le_of_ble_eq_true rfl)
  rw [lg_entry_eq]
  generalize (lg_sl ([.ref (ad 20 0 0)]) ++ List.replicate (5 - (lg_sl ([.ref (ad 20 0 0)])).length) Slot.unset).toArray = ls at hl ⊢
  have hl : lv_has ls 5 [(0, .ref (ad 20 0 0))] := hl
  have w0 := hts (.fieldLink RX11 19 "TutorlightModel" "thrown" "I") (List.mem_of_getElem? (i := 1) rfl)
  have w1 := hts (.fieldLink RX11 16 "TutorlightModel" "learners" "Ljava/util/ArrayList;") (List.mem_of_getElem? (i := 2) rfl)
  have w2 := hts (.fieldLink RX11 10 "TutorlightModel" "skills" "Ljava/util/ArrayList;") (List.mem_of_getElem? (i := 3) rfl)
  have w3 := hts (.classLink RX11 46 "TutorlightModel$Learner") (List.mem_of_getElem? (i := 4) rfl)
  have w4 := hts (.fieldLink RX11 48 "TutorlightModel$Learner" "known" "[LTutorlightModel$Known;") (List.mem_of_getElem? (i := 5) rfl)
  have w5 := hts (.fieldLink RX11 81 "TutorlightModel$Known" "odds" "I") (List.mem_of_getElem? (i := 6) rfl)
  have nX11 : ∀ w ∈ wsX110, w ∈ wsX11_knownShare := fun _ h => List.mem_cons_of_mem _ (List.mem_append_left _ (List.mem_append_left _ (List.mem_append_left _ (List.mem_append_left _ (List.mem_append_right _ h)))))
  have nX9 : ∀ w ∈ wsX90, w ∈ wsX11_knownShare := fun _ h => List.mem_cons_of_mem _ (List.mem_append_left _ (List.mem_append_left _ (List.mem_append_left _ (List.mem_append_right _ h))))
  have nX8 : ∀ w ∈ wsX80, w ∈ wsX11_knownShare := fun _ h => List.mem_cons_of_mem _ (List.mem_append_left _ (List.mem_append_left _ (List.mem_append_right _ h)))
  obtain ⟨hR, hO⟩ := hp
  have hLN : aL S2 * aN S2 < 41 := by obtain ⟨⟨X9, hX⟩, -⟩ := id hO; have := Nat.mul_le_mul hX.1.2.1 hX.1.1; omega
  obtain ⟨⟨X9, ⟨hn, hl4, hd2, hT⟩, hsk, hma, hdc, hle, -⟩, ⟨hns, hnc⟩, ⟨hls, hlc⟩, hac, hmc⟩ := id hO
  have y20_217 := hR.1 _ _ _ _ (t20)
  refine lv_aload_n hx hb dX11_knownShare_0 rfl (lv_at hl 0 rfl) ?_
  refine lv_iconst (v := 0) hx hb dX11_knownShare_1 (by decide) ?_
  refine mq_put (ci := 16) (v := .int 0) (ty := .int) (C := RX11) (T := TX11) (N := 4) (fs' := [.int 0, .int (nI (aD S2)), .ref (ad 21 0 0), .ref (ad 23 0 0)]) hx hb hts nX11 tyX11 tyX11_ok nmX11 hown hK hM hS y20_217 rfl 0 (by decide) w0 (fun _ h9 => h9) rfl (by decide +kernel) rfl rfl (Nat.le_of_ble_eq_true rfl) dX11_knownShare_2 rfl (fun f_1 H locs e_2 hM hS => ?_)
  have h_3 : f_1 (ad 20 0 0) = some (.inr (16, [.int 0, .int (nI (aD S2)), .ref (ad 21 0 0), .ref (ad 23 0 0)])) := mq_s e_2
  have hR1 := WR_yt hR e_2
  have y21_207 := hR1.1 _ _ _ _ (t21)
  have y23_208 := hR1.1 _ _ _ _ (t23)
  refine lv_aload_n hx hb dX11_knownShare_5 rfl (lv_at hl 0 rfl) ?_
  refine lv_aload_n hx hb dX11_knownShare_6 rfl (lv_at hl 0 rfl) ?_
  refine mq_get (ci := 16) (v := .ref (ad 23 0 0)) (C := RX11) (T := TX11) (N := 4) hx hb hts nX11 hown hK hM h_3 rfl 3 (by decide) w1 (fun _ h9 => h9) rfl dX11_knownShare_7 ?_
  refine mq_calli (va_runV (As := []) (rest := [.ref (ad 20 0 0)]) ⟨hx, hb, hml, hown, hts⟩ (c_Jx4a65c_isEmpty_aae02 l G A f_1 (ad 23 0 0) (yL Y).1 (lsD G (yL Y).2 (ad 24 0 0)) (aL S2)) (cwV 0 hts gX11_knownShare_Jx4a65c_isEmpty_aae02 rfl rfl rfl (by decide +kernel) ⟨Nat.le_of_ble_eq_true rfl, Nat.le_of_ble_eq_true rfl⟩) (mq_preV hK hZ hS hA hM (q := (RJx4a65c, TJx4a65c, 3)) y23_208 rfl (⟨y23_208, by omega⟩) _) rfl rfl hl.1 rfl (lv_room (Nat.le_of_ble_eq_true rfl)) dX11_knownShare_10 ⟨Nat.le_of_ble_eq_true rfl, Nat.le_of_ble_eq_true rfl⟩) hS (fun r10 g10 H locs p10 hM hS => ?_)
  refine W.widen (k := 0) (n := 0) (Nat.le_of_ble_eq_true rfl) (Nat.le_of_ble_eq_true rfl) ?_
  obtain ⟨rfl, rfl⟩ := p10
  refine lv_if_ne (tgt := 26) hx hb dX11_knownShare_13 (by decide) (fun c_13 => ?_) (fun c_13 => ?_)
  · replace c_13 : ¬ zb (decide (aL S2 = 0)) = 0 := c_13
    rw [zb_n0] at c_13
    have z_13 : aL S2 = 0 := of_decide_eq_true c_13
    have h0 : aL S2 * aN S2 = 0 := by rw [z_13, Nat.zero_mul]
    refine lv_iconst (v := 1) hx hb dX11_knownShare_26 (by decide) ?_
    refine lv_goto (tgt := 31) hx hb dX11_knownShare_27 (by decide) ?_
    refine lv_iconst (v := 1) hx hb dX11_knownShare_31 (by decide) ?_
    refine mq_calli (va_runV (As := [.int 1, .int 1]) (rest := []) ⟨hx, hb, hml, hown, hts⟩ (c_X11_fails l G A f_1 (ad 20 0 0) true 1 0 (nI (aD S2)) (ad 21 0 0) (ad 23 0 0)) (cwV 2 hts gX11_knownShare_X11_fails rfl rfl rfl (by decide +kernel) ⟨Nat.le_of_ble_eq_true rfl, Nat.le_of_ble_eq_true rfl⟩) (mq_preV hK hZ hS hA hM (q := (RX11, TX11, 4)) h_3 rfl (h_3) _) rfl rfl hl.1 rfl (lv_room (Nat.le_of_ble_eq_true rfl)) dX11_knownShare_32 ⟨Nat.le_of_ble_eq_true rfl, Nat.le_of_ble_eq_true rfl⟩) hS (fun r32 g32 H locs p32 hM hS => ?_)
    refine W.widen (k := 0) (n := 0) (Nat.le_of_ble_eq_true rfl) (Nat.le_of_ble_eq_true rfl) ?_
    obtain ⟨hg, hr9⟩ := p32
    rw [hr9, show zb (decide (fT true 0 1 ≠ 0)) = 1 from by decide]
    refine lv_if_eq (tgt := 40) hx hb dX11_knownShare_35 (by decide) (fun c_35 => absurd c_35 (by decide)) (fun c_35 => ?_)
    refine lv_fconst0 hx hb dX11_knownShare_38 ?_
    refine W.widen (k := 1) (n := 4) (Nat.le_of_ble_eq_true rfl) (Nat.le_of_ble_eq_true rfl) ?_
    exact mq_fret hx hb hr hlocks hM hS (Or.inr ⟨h0, by have q9 := WR_yt hR1 hg; exact q9⟩) dX11_knownShare_39
  · replace c_13 : zb (decide (aL S2 = 0)) = 0 := c_13
    rw [zb_0] at c_13
    have z_13 : aL S2 ≠ 0 := of_decide_eq_false c_13
    refine lv_aload_n hx hb dX11_knownShare_16 rfl (lv_at hl 0 rfl) ?_
    refine mq_get (ci := 16) (v := .ref (ad 21 0 0)) (C := RX11) (T := TX11) (N := 4) hx hb hts nX11 hown hK hM h_3 rfl 2 (by decide) w2 (fun _ h9 => h9) rfl dX11_knownShare_17 ?_
    refine mq_calli (va_runV (As := []) (rest := [.ref (ad 20 0 0)]) ⟨hx, hb, hml, hown, hts⟩ (c_Jx4a65c_isEmpty_aae02 l G A f_1 (ad 21 0 0) (yS Y).1 (lsD G (yS Y).2 (ad 22 0 0)) (aN S2)) (cwV 0 hts gX11_knownShare_Jx4a65c_isEmpty_aae02 rfl rfl rfl (by decide +kernel) ⟨Nat.le_of_ble_eq_true rfl, Nat.le_of_ble_eq_true rfl⟩) (mq_preV hK hZ hS hA hM (q := (RJx4a65c, TJx4a65c, 3)) y21_207 rfl (⟨y21_207, by omega⟩) _) rfl rfl hl.1 rfl (lv_room (Nat.le_of_ble_eq_true rfl)) dX11_knownShare_20 ⟨Nat.le_of_ble_eq_true rfl, Nat.le_of_ble_eq_true rfl⟩) hS (fun r20 g20 H locs p20 hM hS => ?_)
    refine W.widen (k := 0) (n := 0) (Nat.le_of_ble_eq_true rfl) (Nat.le_of_ble_eq_true rfl) ?_
    obtain ⟨rfl, rfl⟩ := p20
    refine lv_if_eq (tgt := 30) hx hb dX11_knownShare_23 (by decide) (fun c_23 => ?_) (fun c_23 => ?_)
    · replace c_23 : zb (decide (aN S2 = 0)) = 0 := c_23
      rw [zb_0] at c_23
      have z_23 : aN S2 ≠ 0 := of_decide_eq_false c_23
      have h0 : aL S2 * aN S2 ≠ 0 := Nat.mul_ne_zero z_13 z_23
      refine lv_iconst (v := 0) hx hb dX11_knownShare_30 (by decide) ?_
      refine lv_iconst (v := 1) hx hb dX11_knownShare_31 (by decide) ?_
      refine mq_calli (va_runV (As := [.int 0, .int 1]) (rest := []) ⟨hx, hb, hml, hown, hts⟩ (c_X11_fails l G A f_1 (ad 20 0 0) false 1 0 (nI (aD S2)) (ad 21 0 0) (ad 23 0 0)) (cwV 2 hts gX11_knownShare_X11_fails rfl rfl rfl (by decide +kernel) ⟨Nat.le_of_ble_eq_true rfl, Nat.le_of_ble_eq_true rfl⟩) (mq_preV hK hZ hS hA hM (q := (RX11, TX11, 4)) h_3 rfl (h_3) _) rfl rfl hl.1 rfl (lv_room (Nat.le_of_ble_eq_true rfl)) dX11_knownShare_32 ⟨Nat.le_of_ble_eq_true rfl, Nat.le_of_ble_eq_true rfl⟩) hS (fun r32 g32 H locs p32 hM hS => ?_)
      refine W.widen (k := 0) (n := 0) (Nat.le_of_ble_eq_true rfl) (Nat.le_of_ble_eq_true rfl) ?_
      obtain ⟨hg, hr9⟩ := p32
      obtain rfl := fl_0 h_3 hg
      rw [hr9, show zb (decide (fT false 0 1 ≠ 0)) = 0 from by decide]
      refine lv_if_eq (tgt := 40) hx hb dX11_knownShare_35 (by decide) (fun c_35 => ?_) (fun c_35 => absurd c_35 (by decide))
      refine lv_iconst (v := 0) hx hb dX11_knownShare_40 (by decide) ?_
      refine lv_istore_n (lv' := [(1, .int 0), (0, .ref (ad 20 0 0))]) hx hb dX11_knownShare_41 rfl hl (by decide) rfl (fun ls hl => ?_)
      refine lv_aload_n hx hb dX11_knownShare_42 rfl (lv_at hl 1 rfl) ?_
      refine mq_get (ci := 16) (v := .ref (ad 23 0 0)) (C := RX11) (T := TX11) (N := 4) hx hb hts nX11 hown hK hM h_3 rfl 3 (by decide) w1 (fun _ h9 => h9) rfl dX11_knownShare_43 ?_
      refine mq_callq (va_runV (As := []) (rest := []) ⟨hx, hb, hml, hown, hts⟩ (c_Jx4a65c_iterator_32c93 l G A f_1 (ad 23 0 0) (yL Y).1 (lsD G (yL Y).2 (ad 24 0 0)) (aL S2)) (cwV 0 hts gX11_knownShare_Jx4a65c_iterator_32c93 rfl rfl rfl (by decide +kernel) ⟨Nat.le_of_ble_eq_true rfl, Nat.le_of_ble_eq_true rfl⟩) (mq_preV hK hZ hS hA hM (q := (RJx4a65c, TJx4a65c, 3)) y23_208 rfl (y23_208) _) rfl rfl hl.1 rfl (lv_room (Nat.le_of_ble_eq_true rfl)) dX11_knownShare_46 ⟨Nat.le_of_ble_eq_true rfl, Nat.le_of_ble_eq_true rfl⟩) hS (fun r46 g46 H locs p46 hM hS => ?_)
      refine W.widen (k := 1) (n := 4) (Nat.le_of_ble_eq_true rfl) (Nat.le_of_ble_eq_true rfl) ?_
      obtain ⟨q46, er, hq46, hg46⟩ := p46
      subst er
      have h_4 : g46 (ad 20 0 0) = some (.inr (16, [.int 0, .int (nI (aD S2)), .ref (ad 21 0 0), .ref (ad 23 0 0)])) := mq_n hg46 h_3 (mq_neN h_3 hq46)
      have h_5 : g46 (ad 21 0 0) = some (.inr (4, [.int ((yS Y).1), .ref (lsD G (yS Y).2 (ad 22 0 0)), .int (nI (aN S2))])) := mq_n hg46 y21_207 (mq_neN y21_207 hq46)
      have h_6 : g46 (ad 23 0 0) = some (.inr (4, [.int ((yL Y).1), .ref (lsD G (yL Y).2 (ad 24 0 0)), .int (nI (aL S2))])) := mq_n hg46 y23_208 (mq_neN y23_208 hq46)
      have h_7 : g46 q46 = some (.inr (3, [.int 0, .int (-1), .int ((yL Y).1), .ref (ad 23 0 0)])) := mq_s hg46
      refine lv_astore_n (lv' := [(2, .ref q46), (1, .int 0), (0, .ref (ad 20 0 0))]) hx hb dX11_knownShare_49 rfl hl (by decide) rfl (fun ls hl => ?_)
      have K50 : ∀ (n9 : Nat) (j kn : Nat) (lr9 : Int32), (aL S2 - j) < n9 → (j ≤ aL S2) → (kn = knC S2 j) → (kn ≤ 10 * j) → ∀ (f9 : mq_F), f9 q46 = some (.inr (3, [.int (nI j), .int lr9, .int ((yL Y).1), .ref (ad 23 0 0)])) → (∀ y e, f_1 y = some e → f9 y = some e) → ∀ (H : Heap) (locs : List Loc), mq_W G.1 A f9 H → va_S A s.heap H locs → ∀ (ls : Array Slot), lv_has ls 5 [(0, .ref (ad 20 0 0)), (1, .int (nI kn)), (2, .ref q46)] → W p l e (headSpec wsX11_knownShare ({ frames := 9, cells := 1, slots := 4, locals := 162 } : Room)).room s m ([.ref (ad 20 0 0)] : List Value).toArray below meth c H locs 1 4 (MQ below (mq_Qf G A (fun r g => (aL S2 * aN S2 ≠ 0 ∧ r = shF S2 ∧ WR G g ad S X S2 (yThr Y 0) O) ∨ (aL S2 * aN S2 = 0 ∧ WR G g ad S X S2 (yThr Y 1) O))) ([.ref (ad 20 0 0)] : List Value).toArray s 1 4 A) (F0 m 50 ls []) := by
        intro n9
        induction n9 with
        | zero => intro j kn lr9 hn9; exact absurd hn9 (Nat.not_lt_zero _)
        | succ n9 ih50 =>
          intro j kn lr9 hn9 hi hs9 hkb f9 hq9 hk9 H locs hM hS ls hl
          have hR9 := RR.mono hR1 hk9
          have y23_214 := hR9.1 _ _ _ _ (t23)
          have y20_215 := hR9.1 _ _ _ _ (t20)
          have y21_216 := hR9.1 _ _ _ _ (t21)
          refine lv_aload_n hx hb dX11_knownShare_50 rfl (lv_at hl 2 rfl) ?_
          refine mq_callFi (va_runF (hK.1 3 _ rfl).2 (As := []) (rest := []) ⟨hx, hb, hml, hown, hts⟩ (c_Jx35411_hasNext_aae02 l G A f9 q46 (ad 23 0 0) j lr9 (yL Y).1 (lsD G (yL Y).2 (ad 24 0 0)) (aL S2)) (va_cwF 0 hts gX11_knownShare_Jx35411_hasNext_aae02_f138Jx35411 rfl rfl rfl (mq_itf hZ (by decide)) ⟨by decide, by decide, by decide +kernel⟩ ⟨Nat.le_of_ble_eq_true rfl, Nat.le_of_ble_eq_true rfl⟩) (mq_preV hK hZ hS hA hM (q := (RJx35411, TJx35411, 4)) hq9 rfl (⟨hq9, y23_214, by omega, by omega⟩) _) rfl rfl hl.1 rfl (lv_room (Nat.le_of_ble_eq_true rfl)) dX11_knownShare_51 ⟨Nat.le_of_ble_eq_true rfl, Nat.le_of_ble_eq_true rfl⟩) hS (fun r51 g51 H locs p51 hM hS => ?_)
          refine W.widen (k := 1) (n := 4) (Nat.le_of_ble_eq_true rfl) (Nat.le_of_ble_eq_true rfl) ?_
          obtain ⟨rfl, rfl⟩ := p51
          refine lv_if_eq (tgt := 117) hx hb dX11_knownShare_56 (by decide) (fun c_56 => ?_) (fun c_56 => ?_)
          · replace c_56 : zb (decide (j ≠ aL S2)) = 0 := c_56
            rw [zb_0] at c_56
            have hi2 : j = aL S2 := by simpa using c_56
            refine lv_iload_n hx hb dX11_knownShare_117 rfl (lv_at hl 1 rfl) ?_
            refine lv_i2f hx hb dX11_knownShare_118 ?_
            refine lv_aload_n hx hb dX11_knownShare_119 rfl (lv_at hl 0 rfl) ?_
            refine mq_get (ci := 16) (v := .ref (ad 23 0 0)) (C := RX11) (T := TX11) (N := 4) hx hb hts nX11 hown hK hM y20_215 rfl 3 (by decide) w1 (fun _ h9 => h9) rfl dX11_knownShare_120 ?_
            refine mq_calli (va_runV (As := []) (rest := [.float (FP.i2f (nI kn))]) ⟨hx, hb, hml, hown, hts⟩ (c_Jx4a65c_size_8abf5 l G A f9 (ad 23 0 0) (yL Y).1 (lsD G (yL Y).2 (ad 24 0 0)) (aL S2)) (cwV 0 hts gX11_knownShare_Jx4a65c_size_8abf5 rfl rfl rfl (by decide +kernel) ⟨Nat.le_of_ble_eq_true rfl, Nat.le_of_ble_eq_true rfl⟩) (mq_preV hK hZ hS hA hM (q := (RJx4a65c, TJx4a65c, 3)) y23_214 rfl (y23_214) _) rfl rfl hl.1 rfl (lv_room (Nat.le_of_ble_eq_true rfl)) dX11_knownShare_123 ⟨Nat.le_of_ble_eq_true rfl, Nat.le_of_ble_eq_true rfl⟩) hS (fun r123 g123 H locs p123 hM hS => ?_)
            refine W.widen (k := 1) (n := 4) (Nat.le_of_ble_eq_true rfl) (Nat.le_of_ble_eq_true rfl) ?_
            obtain ⟨rfl, rfl⟩ := p123
            refine lv_aload_n hx hb dX11_knownShare_126 rfl (lv_at hl 0 rfl) ?_
            refine mq_get (ci := 16) (v := .ref (ad 21 0 0)) (C := RX11) (T := TX11) (N := 4) hx hb hts nX11 hown hK hM y20_215 rfl 2 (by decide) w2 (fun _ h9 => h9) rfl dX11_knownShare_127 ?_
            refine mq_calli (va_runV (As := []) (rest := [.int (nI (aL S2)), .float (FP.i2f (nI kn))]) ⟨hx, hb, hml, hown, hts⟩ (c_Jx4a65c_size_8abf5 l G A f9 (ad 21 0 0) (yS Y).1 (lsD G (yS Y).2 (ad 22 0 0)) (aN S2)) (cwV 0 hts gX11_knownShare_Jx4a65c_size_8abf5 rfl rfl rfl (by decide +kernel) ⟨Nat.le_of_ble_eq_true rfl, Nat.le_of_ble_eq_true rfl⟩) (mq_preV hK hZ hS hA hM (q := (RJx4a65c, TJx4a65c, 3)) y21_216 rfl (y21_216) _) rfl rfl hl.1 rfl (lv_room (Nat.le_of_ble_eq_true rfl)) dX11_knownShare_130 ⟨Nat.le_of_ble_eq_true rfl, Nat.le_of_ble_eq_true rfl⟩) hS (fun r130 g130 H locs p130 hM hS => ?_)
            refine W.widen (k := 1) (n := 4) (Nat.le_of_ble_eq_true rfl) (Nat.le_of_ble_eq_true rfl) ?_
            obtain ⟨rfl, rfl⟩ := p130
            refine lv_imul hx hb dX11_knownShare_133 ?_
            rw [show (nI (aL S2)) * (nI (aN S2)) = nI ((aL S2) * (aN S2)) from pk_mul _ _]
            refine lv_i2f hx hb dX11_knownShare_134 ?_
            refine lv_fdiv hx hb dX11_knownShare_135 (sh_nan (aL S2 * aN S2) (by omega) h0 kn (by omega)) ?_
            exact mq_fret hx hb hr hlocks hM hS (Or.inl ⟨h0, by rw [hs9, hi2]; rfl, hR9⟩) dX11_knownShare_136
          · replace c_56 : ¬ zb (decide (j ≠ aL S2)) = 0 := c_56
            rw [zb_n0] at c_56
            have hi2 : j < aL S2 := Nat.lt_of_le_of_ne hi (by simpa using c_56)
            have hcl : (yL Y).2 ≠ 0 := by omega
            have y123_209 := hR9.1 _ _ _ _ (t123 hcl)
            have y24_210 := hR9.1 _ _ _ _ (t24 hcl)
            have y27_211 := hR9.1 _ _ _ _ (t27 (j := j) hi2)
            have y28_212 := hR9.1 _ _ _ _ (t28 (j := j) hi2)
            refine lv_aload_n hx hb dX11_knownShare_59 rfl (lv_at hl 2 rfl) ?_
            refine mq_callFq (va_runF (hK.1 3 _ rfl).2 (As := []) (rest := []) ⟨hx, hb, hml, hown, hts⟩ (c_Jx35411_next_0502b l G A f9 q46 (ad 23 0 0) j lr9 (yL Y).1 (ad 24 0 0) (yL Y).2 (aL S2) (fun i => ad 27 i 0)) (va_cwF 0 hts gX11_knownShare_Jx35411_next_0502b_f144Jx35411 rfl rfl rfl (mq_itf hZ (by decide)) ⟨by decide, by decide, by decide +kernel⟩ ⟨Nat.le_of_ble_eq_true rfl, Nat.le_of_ble_eq_true rfl⟩) (mq_preV hK hZ hS hA hM (q := (RJx35411, TJx35411, 4)) hq9 rfl (⟨hq9, y123_209, y24_210, hi2, hls, by omega⟩) _) rfl rfl hl.1 rfl (lv_room (Nat.le_of_ble_eq_true rfl)) dX11_knownShare_60 ⟨Nat.le_of_ble_eq_true rfl, Nat.le_of_ble_eq_true rfl⟩) hS (fun r60 g60 H locs p60 hM hS => ?_)
            refine W.widen (k := 1) (n := 4) (Nat.le_of_ble_eq_true rfl) (Nat.le_of_ble_eq_true rfl) ?_
            obtain ⟨hg60, rfl⟩ := p60
            have hR8 := RR.mono hR1 (fun y e he => mq_n hg60 (hk9 y e he) (mq_neN he hq46))
            have h_8 : g60 (ad 23 0 0) = some (.inr (4, [.int ((yL Y).1), .ref (ad 24 0 0), .int (nI (aL S2))])) := mq_n hg60 y123_209 (mq_neN y23_208 hq46)
            have h_9 : g60 (ad 20 0 0) = some (.inr (16, [.int 0, .int (nI (aD S2)), .ref (ad 21 0 0), .ref (ad 23 0 0)])) := mq_n hg60 y20_215 (mq_neN h_3 hq46)
            have h_10 : g60 (ad 21 0 0) = some (.inr (4, [.int ((yS Y).1), .ref (lsD G (yS Y).2 (ad 22 0 0)), .int (nI (aN S2))])) := mq_n hg60 y21_216 (mq_neN y21_207 hq46)
            have h_11 : g60 (ad 24 0 0) = some (.inl (G.2 8, (yL Y).2, .inr (.inr (.inr (.inr (rf_of (aL S2) (fun i => ad 27 i 0))))))) := mq_n hg60 y24_210 (mq_neB y24_210 hq9)
            have h_12 : g60 (ad 27 j 0) = some (.inr (14, [.ref (ad 28 j 0), .ref (ad 32 j 0), va_rf (oMap (lEx (aE S2 j)) (ad 35 j 0)), .int (nI ((exN (lEx (aE S2 j)) (yO Y j)).1)), .int (nI ((exN (lEx (aE S2 j)) (yO Y j)).2.1)), .int (nI ((exN (lEx (aE S2 j)) (yO Y j)).2.2)), va_rf (oMap (lWs (aE S2 j)) (ad 36 j 0)), va_rf (oMap (lWs (aE S2 j)) (ad 37 j 0))])) := mq_n hg60 y27_211 (mq_neO y27_211 hq9 (by decide))
            have h_13 : g60 (ad 28 j 0) = some (.inl (G.2 7, 10, .inr (.inr (.inr (.inr (rf_of 10 (fun i => ad 29 j i))))))) := mq_n hg60 y28_212 (mq_neB y28_212 hq9)
            have h_14 : g60 q46 = some (.inr (3, [.int (nI (j + 1)), .int (nI j), .int ((yL Y).1), .ref (ad 23 0 0)])) := mq_s hg60
            refine mq_castG hx hb hown w3 (mq_recv hK hM h_12 rfl) dX11_knownShare_65 ?_
            refine lv_astore_n (lv' := [(3, .ref (ad 27 j 0)), (0, .ref (ad 20 0 0)), (1, .int (nI kn)), (2, .ref q46)]) hx hb dX11_knownShare_68 rfl hl (by decide) rfl (fun ls hl => ?_)
            refine lv_iconst (v := 0) hx hb dX11_knownShare_69 (by decide) ?_
            refine lv_istore (lv' := [(4, .int 0), (3, .ref (ad 27 j 0)), (0, .ref (ad 20 0 0)), (1, .int (nI kn)), (2, .ref q46)]) hx hb dX11_knownShare_70 hl (by decide) rfl (fun ls hl => ?_)
            have K72 : ∀ (n9 : Nat) (t8 cn : Nat), (aN S2 - t8) < n9 → (t8 ≤ aN S2) → (cn = kn + cntB (fun i => decide (700 ≤ mOd (aM S2 j i))) t8) → (cn ≤ 10 * j + t8) → ∀ (H : Heap) (locs : List Loc), mq_W G.1 A g60 H → va_S A s.heap H locs → ∀ (ls : Array Slot), lv_has ls 5 [(0, .ref (ad 20 0 0)), (1, .int (nI cn)), (2, .ref q46), (3, .ref (ad 27 j 0)), (4, .int (nI t8))] → W p l e (headSpec wsX11_knownShare ({ frames := 9, cells := 1, slots := 4, locals := 162 } : Room)).room s m ([.ref (ad 20 0 0)] : List Value).toArray below meth c H locs 1 4 (MQ below (mq_Qf G A (fun r g => (aL S2 * aN S2 ≠ 0 ∧ r = shF S2 ∧ WR G g ad S X S2 (yThr Y 0) O) ∨ (aL S2 * aN S2 = 0 ∧ WR G g ad S X S2 (yThr Y 1) O))) ([.ref (ad 20 0 0)] : List Value).toArray s 1 4 A) (F0 m 72 ls []) := by
              intro n9
              induction n9 with
              | zero => intro t8 cn hn9; exact absurd hn9 (Nat.not_lt_zero _)
              | succ n9 ih72 =>
                intro t8 cn hn9 ht8 hs8 hcb H locs hM hS ls hl
                refine lv_iload hx hb dX11_knownShare_72 (lv_at hl 4 rfl) ?_
                refine lv_aload_n hx hb dX11_knownShare_74 rfl (lv_at hl 0 rfl) ?_
                refine mq_get (ci := 16) (v := .ref (ad 21 0 0)) (C := RX11) (T := TX11) (N := 4) hx hb hts nX11 hown hK hM h_9 rfl 2 (by decide) w2 (fun _ h9 => h9) rfl dX11_knownShare_75 ?_
                refine mq_calli (va_runV (As := []) (rest := [.int (nI t8)]) ⟨hx, hb, hml, hown, hts⟩ (c_Jx4a65c_size_8abf5 l G A g60 (ad 21 0 0) (yS Y).1 (lsD G (yS Y).2 (ad 22 0 0)) (aN S2)) (cwV 0 hts gX11_knownShare_Jx4a65c_size_8abf5 rfl rfl rfl (by decide +kernel) ⟨Nat.le_of_ble_eq_true rfl, Nat.le_of_ble_eq_true rfl⟩) (mq_preV hK hZ hS hA hM (q := (RJx4a65c, TJx4a65c, 3)) h_10 rfl (h_10) _) rfl rfl hl.1 rfl (lv_room (Nat.le_of_ble_eq_true rfl)) dX11_knownShare_78 ⟨Nat.le_of_ble_eq_true rfl, Nat.le_of_ble_eq_true rfl⟩) hS (fun r78 g78 H locs p78 hM hS => ?_)
                refine W.widen (k := 1) (n := 4) (Nat.le_of_ble_eq_true rfl) (Nat.le_of_ble_eq_true rfl) ?_
                obtain ⟨rfl, rfl⟩ := p78
                refine lv_icmp_ge (tgt := 114) hx hb dX11_knownShare_81 (by decide) (fun c_81 => ?_) (fun c_81 => ?_)
                · replace c_81 : nI (aN S2) ≤ nI t8 := c_81
                  rw [nI_leI (by omega) (by omega)] at c_81
                  refine lv_goto (tgt := 50) hx hb dX11_knownShare_114 (by decide) ?_
                  exact W.widen (by omega) (by omega) (ih50 (j + 1) cn (nI j) (by omega) (by omega) (by rw [hs8, hs9, show t8 = aN S2 by omega]; rfl) (by omega) _ h_14 (fun y e he => mq_n hg60 (hk9 y e he) (mq_neN he hq46)) _ _ hM hS _ (lv_sub hl [0, 1, 2] rfl))
                · replace c_81 : ¬ nI (aN S2) ≤ nI t8 := c_81
                  rw [nI_leI (by omega) (by omega)] at c_81
                  refine lv_iload_n hx hb dX11_knownShare_84 rfl (lv_at hl 1 rfl) ?_
                  refine lv_aload_n hx hb dX11_knownShare_85 rfl (lv_at hl 3 rfl) ?_
                  refine mq_get (ci := 14) (v := .ref (ad 28 j 0)) (C := RX9) (T := TX9) (N := 8) hx hb hts nX9 hown hK hM h_12 rfl 0 (by decide) w4 (fun _ h9 => h9) rfl dX11_knownShare_86 ?_
                  refine lv_iload hx hb dX11_knownShare_89 (lv_at hl 4 rfl) ?_
                  refine mq_aald (t0 := 7) (v := .ref (ad 29 j t8)) hx hb hK hM rfl h_13 (vp_in_nI (by omega) (by omega)) (by rw [show (nI t8 : Int32).toNatClampNeg = t8 from nI_clamp (by omega)]; exact congrArg va_rf (rf_at (by omega))) dX11_knownShare_91 ?_
                  have m1 := (hma j t8 hi2 (by omega)).1
                  have y29_213 := hR8.1 _ _ _ _ (t29 (j := j) (k := t8) hi2 (by omega))
                  refine mq_get (ci := 13) (v := .int (nI (mOd (aM S2 j t8)))) (C := RX8) (T := TX8) (N := 6) hx hb hts nX8 hown hK hM y29_213 rfl 0 (by decide) w5 (fun _ h9 => h9) rfl dX11_knownShare_92 ?_
                  refine lv_sipush (v := 700) hx hb dX11_knownShare_95 (by decide) ?_
                  refine lv_icmp_lt (tgt := 105) hx hb dX11_knownShare_98 (by decide) (fun c_98 => ?_) (fun c_98 => ?_)
                  · replace c_98 : nI (mOd (aM S2 j t8)) < nI 700 := c_98
                    rw [nI_ltI (by omega) (by omega)] at c_98
                    refine lv_iconst (v := 0) hx hb dX11_knownShare_105 (by decide) ?_
                    refine lv_iadd hx hb dX11_knownShare_106 ?_
                    rw [show (nI cn) + 0 = nI (cn + 0) from nI_add _ _]
                    refine lv_istore_n (lv' := [(1, .int (nI (cn + 0))), (0, .ref (ad 20 0 0)), (2, .ref q46), (3, .ref (ad 27 j 0)), (4, .int (nI t8))]) hx hb dX11_knownShare_107 rfl hl (by decide) rfl (fun ls hl => ?_)
                    refine lv_iinc (v := nI (t8 + 1)) (lv' := [(4, .int (nI (t8 + 1))), (1, .int (nI (cn + 0))), (0, .ref (ad 20 0 0)), (2, .ref q46), (3, .ref (ad 27 j 0))]) hx hb dX11_knownShare_108 hl (k := 4) rfl (nI_add _ _) (by decide) rfl (fun ls hl => ?_)
                    refine lv_goto (tgt := 72) hx hb dX11_knownShare_111 (by decide) ?_
                    exact ih72 (t8 + 1) (cn + 0) (by omega) (by omega) (by rw [cntB_f (by simp; omega), hs8]; try omega) (by omega) _ _ hM hS _ (lv_sub hl [2, 1, 3, 4, 0] rfl)
                  · replace c_98 : ¬ nI (mOd (aM S2 j t8)) < nI 700 := c_98
                    rw [nI_ltI (by omega) (by omega)] at c_98
                    refine lv_iconst (v := 1) hx hb dX11_knownShare_101 (by decide) ?_
                    refine lv_goto (tgt := 106) hx hb dX11_knownShare_102 (by decide) ?_
                    refine lv_iadd hx hb dX11_knownShare_106 ?_
                    rw [show (nI cn) + 1 = nI (cn + 1) from nI_add _ _]
                    refine lv_istore_n (lv' := [(1, .int (nI (cn + 1))), (0, .ref (ad 20 0 0)), (2, .ref q46), (3, .ref (ad 27 j 0)), (4, .int (nI t8))]) hx hb dX11_knownShare_107 rfl hl (by decide) rfl (fun ls hl => ?_)
                    refine lv_iinc (v := nI (t8 + 1)) (lv' := [(4, .int (nI (t8 + 1))), (1, .int (nI (cn + 1))), (0, .ref (ad 20 0 0)), (2, .ref q46), (3, .ref (ad 27 j 0))]) hx hb dX11_knownShare_108 hl (k := 4) rfl (nI_add _ _) (by decide) rfl (fun ls hl => ?_)
                    refine lv_goto (tgt := 72) hx hb dX11_knownShare_111 (by decide) ?_
                    exact ih72 (t8 + 1) (cn + 1) (by omega) (by omega) (by rw [cntB_t (by simp; omega), hs8]; try omega) (by omega) _ _ hM hS _ (lv_sub hl [2, 1, 3, 4, 0] rfl)
            exact K72 _ 0 kn (Nat.lt_succ_self _) (Nat.zero_le _) (rfl) (hkb) _ _ hM hS _ (lv_sub hl [2, 3, 4, 1, 0] rfl)
      exact W.widen (by omega) (by omega) (K50 _ 0 0 (-1) (Nat.lt_succ_self _) (Nat.zero_le _) (rfl) (Nat.le_refl _) _ h_7 (fun y e he => mq_n hg46 he (mq_neN he hq46)) _ _ hM hS _ (lv_sub hl [2, 1, 0] rfl))
    · replace c_23 : ¬ zb (decide (aN S2 = 0)) = 0 := c_23
      rw [zb_n0] at c_23
      have z_23 : aN S2 = 0 := of_decide_eq_true c_23
      have h0 : aL S2 * aN S2 = 0 := by rw [z_23, Nat.mul_zero]
      refine lv_iconst (v := 1) hx hb dX11_knownShare_26 (by decide) ?_
      refine lv_goto (tgt := 31) hx hb dX11_knownShare_27 (by decide) ?_
      refine lv_iconst (v := 1) hx hb dX11_knownShare_31 (by decide) ?_
      refine mq_calli (va_runV (As := [.int 1, .int 1]) (rest := []) ⟨hx, hb, hml, hown, hts⟩ (c_X11_fails l G A f_1 (ad 20 0 0) true 1 0 (nI (aD S2)) (ad 21 0 0) (ad 23 0 0)) (cwV 2 hts gX11_knownShare_X11_fails rfl rfl rfl (by decide +kernel) ⟨Nat.le_of_ble_eq_true rfl, Nat.le_of_ble_eq_true rfl⟩) (mq_preV hK hZ hS hA hM (q := (RX11, TX11, 4)) h_3 rfl (h_3) _) rfl rfl hl.1 rfl (lv_room (Nat.le_of_ble_eq_true rfl)) dX11_knownShare_32 ⟨Nat.le_of_ble_eq_true rfl, Nat.le_of_ble_eq_true rfl⟩) hS (fun r32 g32 H locs p32 hM hS => ?_)
      refine W.widen (k := 0) (n := 0) (Nat.le_of_ble_eq_true rfl) (Nat.le_of_ble_eq_true rfl) ?_
      obtain ⟨hg, hr9⟩ := p32
      rw [hr9, show zb (decide (fT true 0 1 ≠ 0)) = 1 from by decide]
      refine lv_if_eq (tgt := 40) hx hb dX11_knownShare_35 (by decide) (fun c_35 => absurd c_35 (by decide)) (fun c_35 => ?_)
      refine lv_fconst0 hx hb dX11_knownShare_38 ?_
      refine W.widen (k := 1) (n := 4) (Nat.le_of_ble_eq_true rfl) (Nat.le_of_ble_eq_true rfl) ?_
      exact mq_fret hx hb hr hlocks hM hS (Or.inr ⟨h0, by have q9 := WR_yt hR1 hg; exact q9⟩) dX11_knownShare_39
