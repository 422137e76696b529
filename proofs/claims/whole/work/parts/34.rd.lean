/-! THE REFERENCE: its sums over learners -/

set_option maxHeartbeats 4000000 in
set_option maxRecDepth 100000 in
theorem c_X11_isSound (l : Launch) (G : mq_G) (A : Nat → Prop) (f : mq_F) (ad : AD) (S : AT) (X : CX) (S2 : AT) (Y : MX) (O : OX) (T : Nat) : Met l yX11_isSound wsX11_isSound ({ frames := 0, cells := 0, slots := 0, locals := 0 } : Room) (mq_Pc G A f (WR G f ad S X S2 Y O ∧ mOK S2 Y T) [.ref (ad 20 0 0)]) (mq_Qi G A (fun r g => r = 1 ∧ WR G g ad S X S2 (yThr Y 0) O)) 0 0 A := by
  refine Met.ofW (cc := cX11_isSound) (maxL := 1) (ret := (some .boolean)) (by decide) rfl ?_
  intro p e s m args below meth c s₁ B hml hv
  obtain ⟨rfl, ⟨hK, hZ, hM, hA⟩, hp⟩ := hv
  have hx := B.exec
  have hb := B.bytes
  have hr := B.returns
  have hts := atoms_spec (ws := wsX11_isSound) B.pre
  have hown : s.vm.findClass RX11 = some m.cls := findClass_of_methodNamed B.named
  have hlocks := B.notSynchronized
  have hS : va_S A s.heap s.heap [] := va_S.rf
  have hl := lv_entry ([.ref (ad 20 0 0)]) (n := 1) (Nat.le_of_ble_eq_true rfl)
  rw [lg_entry_eq]
  generalize (lg_sl ([.ref (ad 20 0 0)]) ++ List.replicate (1 - (lg_sl ([.ref (ad 20 0 0)])).length) Slot.unset).toArray = ls at hl ⊢
  have hl : lv_has ls 1 [(0, .ref (ad 20 0 0))] := hl
  have w0 := hts (.fieldLink RX11 19 "TutorlightModel" "thrown" "I") (List.mem_of_getElem? (i := 1) rfl)
  have nX11 : ∀ w ∈ wsX110, w ∈ wsX11_isSound := fun _ h => List.mem_cons_of_mem _ (List.mem_append_right _ h)
  obtain ⟨hR, hO⟩ := hp
  have y20_186 := hR.1 _ _ _ _ (t20)
  refine lv_aload_n hx hb dX11_isSound_0 rfl (lv_at hl 0 rfl) ?_
  refine lv_iconst (v := 0) hx hb dX11_isSound_1 (by decide) ?_
  refine mq_put (ci := 16) (v := .int 0) (ty := .int) (C := RX11) (T := TX11) (N := 4) (fs' := [.int 0, .int (nI (aD S2)), .ref (ad 21 0 0), .ref (ad 23 0 0)]) hx hb hts nX11 tyX11 tyX11_ok nmX11 hown hK hM hS y20_186 rfl 0 (by decide) w0 (fun _ h9 => h9) rfl (by decide +kernel) rfl rfl (Nat.le_of_ble_eq_true rfl) dX11_isSound_2 rfl (fun f_1 H locs e_2 hM hS => ?_)
  have h_3 : f_1 (ad 20 0 0) = some (.inr (16, [.int 0, .int (nI (aD S2)), .ref (ad 21 0 0), .ref (ad 23 0 0)])) := mq_s e_2
  refine lv_iconst (v := 1) hx hb dX11_isSound_5 (by decide) ?_
  exact mq_zret (v := 1) hx hb hr (rfl) hlocks hM hS (⟨rfl, WR_yt hR e_2⟩) dX11_isSound_6

set_option maxHeartbeats 4000000 in
set_option maxRecDepth 100000 in
theorem c_X11_checksum (l : Launch) (G : mq_G) (A : Nat → Prop) (f : mq_F) (ad : AD) (S : AT) (X : CX) (S2 : AT) (Y : MX) (O : OX) (T : Nat) : Met l yX11_checksum wsX11_checksum ({ frames := 9, cells := 1, slots := 4, locals := 162 } : Room) (mq_Pc G A f (WR G f ad S X S2 Y O ∧ mOK S2 Y T) [.ref (ad 20 0 0)]) (mq_Ql G A (fun r g => r = ckO S2 (aL S2) ∧ WR G g ad S X S2 (yThr Y 0) O)) 1 4 A := by
  refine Met.ofW (cc := cX11_checksum) (maxL := 6) (ret := (some .long)) (by decide) rfl ?_
  intro p e s m args below meth c s₁ B hml hv
  obtain ⟨rfl, ⟨hK, hZ, hM, hA⟩, hp⟩ := hv
  have hx := B.exec
  have hb := B.bytes
  have hr := B.returns
  have hts := atoms_spec (ws := wsX11_checksum) B.pre
  have hown : s.vm.findClass RX11 = some m.cls := findClass_of_methodNamed B.named
  have hlocks := B.notSynchronized
  have hS : va_S A s.heap s.heap [] := va_S.rf
  have hl := lv_entry ([.ref (ad 20 0 0)]) (n := 6) (Nat.le_of_ble_eq_true rfl)
  rw [lg_entry_eq]
  generalize (lg_sl ([.ref (ad 20 0 0)]) ++ List.replicate (6 - (lg_sl ([.ref (ad 20 0 0)])).length) Slot.unset).toArray = ls at hl ⊢
  have hl : lv_has ls 6 [(0, .ref (ad 20 0 0))] := hl
  have w0 := hts (.fieldLink RX11 19 "TutorlightModel" "thrown" "I") (List.mem_of_getElem? (i := 1) rfl)
  have w1 := hts (.fieldLink RX11 16 "TutorlightModel" "learners" "Ljava/util/ArrayList;") (List.mem_of_getElem? (i := 2) rfl)
  have w2 := hts (.classLink RX11 46 "TutorlightModel$Learner") (List.mem_of_getElem? (i := 3) rfl)
  have w3 := hts (.fieldLink RX11 10 "TutorlightModel" "skills" "Ljava/util/ArrayList;") (List.mem_of_getElem? (i := 4) rfl)
  have w4 := hts (.constantLong RX11 224 (31)) (List.mem_of_getElem? (i := 5) rfl)
  have w5 := hts (.fieldLink RX11 48 "TutorlightModel$Learner" "known" "[LTutorlightModel$Known;") (List.mem_of_getElem? (i := 6) rfl)
  have w6 := hts (.fieldLink RX11 81 "TutorlightModel$Known" "odds" "I") (List.mem_of_getElem? (i := 7) rfl)
  have nX11 : ∀ w ∈ wsX110, w ∈ wsX11_checksum := fun _ h => List.mem_cons_of_mem _ (List.mem_append_left _ (List.mem_append_left _ (List.mem_append_left _ (List.mem_append_left _ (List.mem_append_right _ h)))))
  have nX9 : ∀ w ∈ wsX90, w ∈ wsX11_checksum := fun _ h => List.mem_cons_of_mem _ (List.mem_append_left _ (List.mem_append_left _ (List.mem_append_left _ (List.mem_append_right _ h))))
  have nX8 : ∀ w ∈ wsX80, w ∈ wsX11_checksum := fun _ h => List.mem_cons_of_mem _ (List.mem_append_left _ (List.mem_append_left _ (List.mem_append_right _ h)))
  obtain ⟨hR, hO⟩ := hp
  obtain ⟨⟨X9, ⟨hn, hl4, hd2, hT⟩, hsk, hma, hdc, hle, -⟩, ⟨hns, hnc⟩, ⟨hls, hlc⟩, hac, hmc⟩ := id hO
  have y20_196 := hR.1 _ _ _ _ (t20)
  refine lv_aload_n hx hb dX11_checksum_0 rfl (lv_at hl 0 rfl) ?_
  refine lv_iconst (v := 0) hx hb dX11_checksum_1 (by decide) ?_
  refine mq_put (ci := 16) (v := .int 0) (ty := .int) (C := RX11) (T := TX11) (N := 4) (fs' := [.int 0, .int (nI (aD S2)), .ref (ad 21 0 0), .ref (ad 23 0 0)]) hx hb hts nX11 tyX11 tyX11_ok nmX11 hown hK hM hS y20_196 rfl 0 (by decide) w0 (fun _ h9 => h9) rfl (by decide +kernel) rfl rfl (Nat.le_of_ble_eq_true rfl) dX11_checksum_2 rfl (fun f_1 H locs e_2 hM hS => ?_)
  have h_3 : f_1 (ad 20 0 0) = some (.inr (16, [.int 0, .int (nI (aD S2)), .ref (ad 21 0 0), .ref (ad 23 0 0)])) := mq_s e_2
  have hR1 := WR_yt hR e_2
  refine lv_lconst (v := 0) hx hb dX11_checksum_5 (by decide) ?_
  refine lv_lstore_n (lv' := [(1, .long 0), (0, .ref (ad 20 0 0))]) hx hb dX11_checksum_6 rfl hl (by decide) rfl (fun ls hl => ?_)
  refine lv_aload_n hx hb dX11_checksum_7 rfl (lv_at hl 1 rfl) ?_
  have y23_187 := hR1.1 _ _ _ _ (t23)
  refine mq_get (ci := 16) (v := .ref (ad 23 0 0)) (C := RX11) (T := TX11) (N := 4) hx hb hts nX11 hown hK hM h_3 rfl 3 (by decide) w1 (fun _ h9 => h9) rfl dX11_checksum_8 ?_
  refine mq_callq (va_runV (As := []) (rest := []) ⟨hx, hb, hml, hown, hts⟩ (c_Jx4a65c_iterator_32c93 l G A f_1 (ad 23 0 0) (yL Y).1 (lsD G (yL Y).2 (ad 24 0 0)) (aL S2)) (cwV 0 hts gX11_checksum_Jx4a65c_iterator_32c93 rfl rfl rfl (by decide +kernel) ⟨Nat.le_of_ble_eq_true rfl, Nat.le_of_ble_eq_true rfl⟩) (mq_preV hK hZ hS hA hM (q := (RJx4a65c, TJx4a65c, 3)) y23_187 rfl (y23_187) _) rfl rfl hl.1 rfl (lv_room (Nat.le_of_ble_eq_true rfl)) dX11_checksum_11 ⟨Nat.le_of_ble_eq_true rfl, Nat.le_of_ble_eq_true rfl⟩) hS (fun r11 g11 H locs p11 hM hS => ?_)
  refine W.widen (k := 1) (n := 4) (Nat.le_of_ble_eq_true rfl) (Nat.le_of_ble_eq_true rfl) ?_
  obtain ⟨q11, er, hq11, hg11⟩ := p11
  subst er
  have h_4 : g11 (ad 20 0 0) = some (.inr (16, [.int 0, .int (nI (aD S2)), .ref (ad 21 0 0), .ref (ad 23 0 0)])) := mq_n hg11 h_3 (mq_neN h_3 hq11)
  have h_5 : g11 (ad 23 0 0) = some (.inr (4, [.int ((yL Y).1), .ref (lsD G (yL Y).2 (ad 24 0 0)), .int (nI (aL S2))])) := mq_n hg11 y23_187 (mq_neN y23_187 hq11)
  have h_6 : g11 q11 = some (.inr (3, [.int 0, .int (-1), .int ((yL Y).1), .ref (ad 23 0 0)])) := mq_s hg11
  refine lv_astore_n (lv' := [(3, .ref q11), (1, .long 0), (0, .ref (ad 20 0 0))]) hx hb dX11_checksum_14 rfl hl (by decide) rfl (fun ls hl => ?_)
  have K15 : ∀ (n9 : Nat) (j : Nat) (s9 : Int64) (lr9 : Int32), (aL S2 - j) < n9 → (j ≤ aL S2) → (s9 = ckO S2 j) → ∀ (f9 : mq_F), f9 q11 = some (.inr (3, [.int (nI j), .int lr9, .int ((yL Y).1), .ref (ad 23 0 0)])) → (∀ y e, f_1 y = some e → f9 y = some e) → ∀ (H : Heap) (locs : List Loc), mq_W G.1 A f9 H → va_S A s.heap H locs → ∀ (ls : Array Slot), lv_has ls 6 [(0, .ref (ad 20 0 0)), (1, .long s9), (3, .ref q11)] → W p l e (headSpec wsX11_checksum ({ frames := 9, cells := 1, slots := 4, locals := 162 } : Room)).room s m ([.ref (ad 20 0 0)] : List Value).toArray below meth c H locs 1 4 (MQ below (mq_Ql G A (fun r g => r = ckO S2 (aL S2) ∧ WR G g ad S X S2 (yThr Y 0) O)) ([.ref (ad 20 0 0)] : List Value).toArray s 1 4 A) (F0 m 15 ls []) := by
    intro n9
    induction n9 with
    | zero => intro j s9 lr9 hn9; exact absurd hn9 (Nat.not_lt_zero _)
    | succ n9 ih15 =>
      intro j s9 lr9 hn9 hi hs9 f9 hq9 hk9 H locs hM hS ls hl
      have hR9 := RR.mono hR1 hk9
      have y23_195 := hR9.1 _ _ _ _ (t23)
      refine lv_aload_n hx hb dX11_checksum_15 rfl (lv_at hl 2 rfl) ?_
      refine mq_callFi (va_runF (hK.1 3 _ rfl).2 (As := []) (rest := []) ⟨hx, hb, hml, hown, hts⟩ (c_Jx35411_hasNext_aae02 l G A f9 q11 (ad 23 0 0) j lr9 (yL Y).1 (lsD G (yL Y).2 (ad 24 0 0)) (aL S2)) (va_cwF 0 hts gX11_checksum_Jx35411_hasNext_aae02_f138Jx35411 rfl rfl rfl (mq_itf hZ (by decide)) ⟨by decide, by decide, by decide +kernel⟩ ⟨Nat.le_of_ble_eq_true rfl, Nat.le_of_ble_eq_true rfl⟩) (mq_preV hK hZ hS hA hM (q := (RJx35411, TJx35411, 4)) hq9 rfl (⟨hq9, y23_195, by omega, by omega⟩) _) rfl rfl hl.1 rfl (lv_room (Nat.le_of_ble_eq_true rfl)) dX11_checksum_16 ⟨Nat.le_of_ble_eq_true rfl, Nat.le_of_ble_eq_true rfl⟩) hS (fun r16 g16 H locs p16 hM hS => ?_)
      refine W.widen (k := 1) (n := 4) (Nat.le_of_ble_eq_true rfl) (Nat.le_of_ble_eq_true rfl) ?_
      obtain ⟨rfl, rfl⟩ := p16
      refine lv_if_eq (tgt := 78) hx hb dX11_checksum_21 (by decide) (fun c_21 => ?_) (fun c_21 => ?_)
      · replace c_21 : zb (decide (j ≠ aL S2)) = 0 := c_21
        rw [zb_0] at c_21
        have hi2 : j = aL S2 := by simpa using c_21
        refine lv_lload_n hx hb dX11_checksum_78 rfl (lv_at hl 1 rfl) ?_
        exact mq_lret hx hb hr hlocks hM hS (⟨by rw [hs9, hi2], hR9⟩) dX11_checksum_79
      · replace c_21 : ¬ zb (decide (j ≠ aL S2)) = 0 := c_21
        rw [zb_n0] at c_21
        have hi2 : j < aL S2 := Nat.lt_of_le_of_ne hi (by simpa using c_21)
        have hcl : (yL Y).2 ≠ 0 := by omega
        have y20_188 := hR9.1 _ _ _ _ (t20)
        have y21_189 := hR9.1 _ _ _ _ (t21)
        have y123_190 := hR9.1 _ _ _ _ (t123 hcl)
        have y24_191 := hR9.1 _ _ _ _ (t24 hcl)
        have y27_192 := hR9.1 _ _ _ _ (t27 (j := j) hi2)
        have y28_193 := hR9.1 _ _ _ _ (t28 (j := j) hi2)
        refine lv_aload_n hx hb dX11_checksum_24 rfl (lv_at hl 2 rfl) ?_
        refine mq_callFq (va_runF (hK.1 3 _ rfl).2 (As := []) (rest := []) ⟨hx, hb, hml, hown, hts⟩ (c_Jx35411_next_0502b l G A f9 q11 (ad 23 0 0) j lr9 (yL Y).1 (ad 24 0 0) (yL Y).2 (aL S2) (fun i => ad 27 i 0)) (va_cwF 0 hts gX11_checksum_Jx35411_next_0502b_f144Jx35411 rfl rfl rfl (mq_itf hZ (by decide)) ⟨by decide, by decide, by decide +kernel⟩ ⟨Nat.le_of_ble_eq_true rfl, Nat.le_of_ble_eq_true rfl⟩) (mq_preV hK hZ hS hA hM (q := (RJx35411, TJx35411, 4)) hq9 rfl (⟨hq9, y123_190, y24_191, hi2, hls, by omega⟩) _) rfl rfl hl.1 rfl (lv_room (Nat.le_of_ble_eq_true rfl)) dX11_checksum_25 ⟨Nat.le_of_ble_eq_true rfl, Nat.le_of_ble_eq_true rfl⟩) hS (fun r25 g25 H locs p25 hM hS => ?_)
        refine W.widen (k := 1) (n := 4) (Nat.le_of_ble_eq_true rfl) (Nat.le_of_ble_eq_true rfl) ?_
        obtain ⟨hg25, rfl⟩ := p25
        have hR8 := RR.mono hR1 (fun y e he => mq_n hg25 (hk9 y e he) (mq_neN he hq11))
        have h_7 : g25 (ad 23 0 0) = some (.inr (4, [.int ((yL Y).1), .ref (ad 24 0 0), .int (nI (aL S2))])) := mq_n hg25 y123_190 (mq_neN y23_187 hq11)
        have h_8 : g25 (ad 20 0 0) = some (.inr (16, [.int 0, .int (nI (aD S2)), .ref (ad 21 0 0), .ref (ad 23 0 0)])) := mq_n hg25 y20_188 (mq_neN h_3 hq11)
        have h_9 : g25 (ad 21 0 0) = some (.inr (4, [.int ((yS Y).1), .ref (lsD G (yS Y).2 (ad 22 0 0)), .int (nI (aN S2))])) := mq_n hg25 y21_189 (mq_neO y21_189 hq9 (by decide))
        have h_10 : g25 (ad 24 0 0) = some (.inl (G.2 8, (yL Y).2, .inr (.inr (.inr (.inr (rf_of (aL S2) (fun i => ad 27 i 0))))))) := mq_n hg25 y24_191 (mq_neB y24_191 hq9)
        have h_11 : g25 (ad 27 j 0) = some (.inr (14, [.ref (ad 28 j 0), .ref (ad 32 j 0), va_rf (oMap (lEx (aE S2 j)) (ad 35 j 0)), .int (nI ((exN (lEx (aE S2 j)) (yO Y j)).1)), .int (nI ((exN (lEx (aE S2 j)) (yO Y j)).2.1)), .int (nI ((exN (lEx (aE S2 j)) (yO Y j)).2.2)), va_rf (oMap (lWs (aE S2 j)) (ad 36 j 0)), va_rf (oMap (lWs (aE S2 j)) (ad 37 j 0))])) := mq_n hg25 y27_192 (mq_neO y27_192 hq9 (by decide))
        have h_12 : g25 (ad 28 j 0) = some (.inl (G.2 7, 10, .inr (.inr (.inr (.inr (rf_of 10 (fun i => ad 29 j i))))))) := mq_n hg25 y28_193 (mq_neB y28_193 hq9)
        have h_13 : g25 q11 = some (.inr (3, [.int (nI (j + 1)), .int (nI j), .int ((yL Y).1), .ref (ad 23 0 0)])) := mq_s hg25
        refine mq_castG hx hb hown w2 (mq_recv hK hM h_11 rfl) dX11_checksum_30 ?_
        refine lv_astore (lv' := [(4, .ref (ad 27 j 0)), (0, .ref (ad 20 0 0)), (1, .long s9), (3, .ref q11)]) hx hb dX11_checksum_33 hl (by decide) rfl (fun ls hl => ?_)
        refine lv_iconst (v := 0) hx hb dX11_checksum_35 (by decide) ?_
        refine lv_istore (lv' := [(5, .int 0), (4, .ref (ad 27 j 0)), (0, .ref (ad 20 0 0)), (1, .long s9), (3, .ref q11)]) hx hb dX11_checksum_36 hl (by decide) rfl (fun ls hl => ?_)
        have K38 : ∀ (n9 : Nat) (t8 : Nat) (s8 : Int64), (aN S2 - t8) < n9 → (t8 ≤ aN S2) → (s8 = ckI S2 j (ckO S2 j) t8) → ∀ (H : Heap) (locs : List Loc), mq_W G.1 A g25 H → va_S A s.heap H locs → ∀ (ls : Array Slot), lv_has ls 6 [(0, .ref (ad 20 0 0)), (1, .long s8), (3, .ref q11), (4, .ref (ad 27 j 0)), (5, .int (nI t8))] → W p l e (headSpec wsX11_checksum ({ frames := 9, cells := 1, slots := 4, locals := 162 } : Room)).room s m ([.ref (ad 20 0 0)] : List Value).toArray below meth c H locs 1 4 (MQ below (mq_Ql G A (fun r g => r = ckO S2 (aL S2) ∧ WR G g ad S X S2 (yThr Y 0) O)) ([.ref (ad 20 0 0)] : List Value).toArray s 1 4 A) (F0 m 38 ls []) := by
          intro n9
          induction n9 with
          | zero => intro t8 s8 hn9; exact absurd hn9 (Nat.not_lt_zero _)
          | succ n9 ih38 =>
            intro t8 s8 hn9 ht8 hs8 H locs hM hS ls hl
            refine lv_iload hx hb dX11_checksum_38 (lv_at hl 4 rfl) ?_
            refine lv_aload_n hx hb dX11_checksum_40 rfl (lv_at hl 0 rfl) ?_
            refine mq_get (ci := 16) (v := .ref (ad 21 0 0)) (C := RX11) (T := TX11) (N := 4) hx hb hts nX11 hown hK hM h_8 rfl 2 (by decide) w3 (fun _ h9 => h9) rfl dX11_checksum_41 ?_
            refine mq_calli (va_runV (As := []) (rest := [.int (nI t8)]) ⟨hx, hb, hml, hown, hts⟩ (c_Jx4a65c_size_8abf5 l G A g25 (ad 21 0 0) (yS Y).1 (lsD G (yS Y).2 (ad 22 0 0)) (aN S2)) (cwV 0 hts gX11_checksum_Jx4a65c_size_8abf5 rfl rfl rfl (by decide +kernel) ⟨Nat.le_of_ble_eq_true rfl, Nat.le_of_ble_eq_true rfl⟩) (mq_preV hK hZ hS hA hM (q := (RJx4a65c, TJx4a65c, 3)) h_9 rfl (h_9) _) rfl rfl hl.1 rfl (lv_room (Nat.le_of_ble_eq_true rfl)) dX11_checksum_44 ⟨Nat.le_of_ble_eq_true rfl, Nat.le_of_ble_eq_true rfl⟩) hS (fun r44 g44 H locs p44 hM hS => ?_)
            refine W.widen (k := 1) (n := 4) (Nat.le_of_ble_eq_true rfl) (Nat.le_of_ble_eq_true rfl) ?_
            obtain ⟨rfl, rfl⟩ := p44
            refine lv_icmp_ge (tgt := 75) hx hb dX11_checksum_47 (by decide) (fun c_47 => ?_) (fun c_47 => ?_)
            · replace c_47 : nI (aN S2) ≤ nI t8 := c_47
              rw [nI_leI (by omega) (by omega)] at c_47
              refine lv_goto (tgt := 15) hx hb dX11_checksum_75 (by decide) ?_
              exact W.widen (by omega) (by omega) (ih15 (j + 1) _ (nI j) (by omega) (by omega) (by rw [hs8, show t8 = aN S2 by omega]; rfl) _ h_13 (fun y e he => mq_n hg25 (hk9 y e he) (mq_neN he hq11)) _ _ hM hS _ (lv_sub hl [0, 1, 2] rfl))
            · replace c_47 : ¬ nI (aN S2) ≤ nI t8 := c_47
              rw [nI_leI (by omega) (by omega)] at c_47
              refine lv_ldc2 hx hb hown w4 dX11_checksum_50 ?_
              refine lv_lload_n hx hb dX11_checksum_53 rfl (lv_at hl 1 rfl) ?_
              refine lv_lmul hx hb dX11_checksum_54 ?_
              refine lv_aload hx hb dX11_checksum_55 (lv_at hl 3 rfl) ?_
              refine mq_get (ci := 14) (v := .ref (ad 28 j 0)) (C := RX9) (T := TX9) (N := 8) hx hb hts nX9 hown hK hM h_11 rfl 0 (by decide) w5 (fun _ h9 => h9) rfl dX11_checksum_57 ?_
              refine lv_iload hx hb dX11_checksum_60 (lv_at hl 4 rfl) ?_
              refine mq_aald (t0 := 7) (v := .ref (ad 29 j t8)) hx hb hK hM rfl h_12 (vp_in_nI (by omega) (by omega)) (by rw [show (nI t8 : Int32).toNatClampNeg = t8 from nI_clamp (by omega)]; exact congrArg va_rf (rf_at (by omega))) dX11_checksum_62 ?_
              have y29_194 := hR8.1 _ _ _ _ (t29 (j := j) (k := t8) hi2 (by omega))
              refine mq_get (ci := 13) (v := .int (nI (mOd (aM S2 j t8)))) (C := RX8) (T := TX8) (N := 6) hx hb hts nX8 hown hK hM y29_194 rfl 0 (by decide) w6 (fun _ h9 => h9) rfl dX11_checksum_63 ?_
              refine lv_i2l hx hb dX11_checksum_66 rfl ?_
              refine lv_ladd hx hb dX11_checksum_67 ?_
              refine lv_lstore_n (lv' := [(1, .long ((31 * s8) + ((nI (mOd (aM S2 j t8))).toInt64))), (0, .ref (ad 20 0 0)), (3, .ref q11), (4, .ref (ad 27 j 0)), (5, .int (nI t8))]) hx hb dX11_checksum_68 rfl hl (by decide) rfl (fun ls hl => ?_)
              refine lv_iinc (v := nI (t8 + 1)) (lv' := [(5, .int (nI (t8 + 1))), (1, .long ((31 * s8) + ((nI (mOd (aM S2 j t8))).toInt64))), (0, .ref (ad 20 0 0)), (3, .ref q11), (4, .ref (ad 27 j 0))]) hx hb dX11_checksum_69 hl (k := 4) rfl (nI_add _ _) (by decide) rfl (fun ls hl => ?_)
              refine lv_goto (tgt := 38) hx hb dX11_checksum_72 (by decide) ?_
              exact ih38 (t8 + 1) _ (by omega) (by omega) (by rw [hs8]; rfl) _ _ hM hS _ (lv_sub hl [2, 1, 3, 4, 0] rfl)
        exact K38 _ 0 _ (Nat.lt_succ_self _) (Nat.zero_le _) (by rw [hs9]; rfl) _ _ hM hS _ (lv_sub hl [2, 3, 4, 1, 0] rfl)
  exact W.widen (by omega) (by omega) (K15 _ 0 0 (-1) (Nat.lt_succ_self _) (Nat.zero_le _) (rfl) _ h_6 (fun y e he => mq_n hg11 he (mq_neN he hq11)) _ _ hM hS _ (lv_sub hl [2, 1, 0] rfl))
