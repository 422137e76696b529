/-! THE REFERENCE: how odds move -/

set_option maxHeartbeats 4000000 in
set_option maxRecDepth 100000 in
theorem c_X11_moved (l : Launch) (G : mq_G) (A : Nat → Prop) (f : mq_F) (x gu sl ga nd pp : Nat) (z : Bool) : Met l yX11_moved wsX11_moved ({ frames := 0, cells := 0, slots := 0, locals := 0 } : Room) (mq_Pc G A f (f x = some (.inr (15, [.int (nI gu), .int (nI sl), .int (nI ga), .ref nd])) ∧ gu ≤ 500 ∧ sl ≤ 500 ∧ ga ≤ 500 ∧ pp ≤ 1000) [.ref x, .int (nI pp), .int (zb z)]) (mq_Qi G A (fun r g => f = g ∧ r = nI (mv gu sl ga pp z))) 0 0 A := by
  refine Met.ofW (cc := cX11_moved) (maxL := 6) (ret := (some .int)) (by decide) rfl ?_
  intro p e s m args below meth c s₁ B hml hv
  obtain ⟨rfl, ⟨hK, hZ, hM, hA⟩, hp⟩ := hv
  have hx := B.exec
  have hb := B.bytes
  have hr := B.returns
  have hts := atoms_spec (ws := wsX11_moved) B.pre
  have hown : s.vm.findClass RX11 = some m.cls := findClass_of_methodNamed B.named
  have hlocks := B.notSynchronized
  have hS : va_S A s.heap s.heap [] := va_S.rf
  have hl := lv_entry ([.ref x, .int (nI pp), .int (zb z)]) (n := 6) (Nat.le_of_ble_eq_true rfl)
  rw [lg_entry_eq]
  generalize (lg_sl ([.ref x, .int (nI pp), .int (zb z)]) ++ List.replicate (6 - (lg_sl ([.ref x, .int (nI pp), .int (zb z)])).length) Slot.unset).toArray = ls at hl ⊢
  have hl : lv_has ls 6 [(0, .ref x), (1, .int (nI pp)), (2, .int (zb z))] := hl
  have w0 := hts (.fieldLink RX11 61 "TutorlightModel$Skill" "gain" "I") (List.mem_of_getElem? (i := 4) rfl)
  have w1 := hts (.constantLong RX11 96 (1000)) (List.mem_of_getElem? (i := 3) rfl)
  have w2 := hts (.fieldLink RX11 55 "TutorlightModel$Skill" "guess" "I") (List.mem_of_getElem? (i := 2) rfl)
  have w3 := hts (.fieldLink RX11 58 "TutorlightModel$Skill" "slip" "I") (List.mem_of_getElem? (i := 1) rfl)
  have nX10 : ∀ w ∈ wsX100, w ∈ wsX11_moved := fun _ h => List.mem_cons_of_mem _ (List.mem_append_left _ (List.mem_append_right _ h))
  obtain ⟨h0, hg, hs, hga, hpp⟩ := hp
  have bk := mv_k_le (z := z) hs hpp
  have bu := mv_u_le (p := pp) (z := z) hg
  have bt := mv_t_le (gu := gu) (sl := sl) (z := z) hpp
  have K75 : ∀ (t : Nat), (t = mv_t gu sl pp z) → ∀ (H : Heap) (locs : List Loc), mq_W G.1 A f H → va_S A s.heap H locs → ∀ (ls : Array Slot), lv_has ls 6 [(0, .ref x), (5, .int (nI t))] → W p l e (headSpec wsX11_moved ({ frames := 0, cells := 0, slots := 0, locals := 0 } : Room)).room s m ([.ref x, .int (nI pp), .int (zb z)] : List Value).toArray below meth c H locs 0 0 (MQ below (mq_Qi G A (fun r g => f = g ∧ r = nI (mv gu sl ga pp z))) ([.ref x, .int (nI pp), .int (zb z)] : List Value).toArray s 0 0 A) (F0 m 75 ls []) := by
    intro t ht H locs hM hS ls hl
    refine lv_iload hx hb dX11_moved_75 (lv_at hl 1 rfl) ?_
    refine lv_sipush (v := 1000) hx hb dX11_moved_77 (by decide) ?_
    refine lv_iload hx hb dX11_moved_80 (lv_at hl 1 rfl) ?_
    refine lv_isub hx hb dX11_moved_82 ?_
    rw [show 1000 - (nI t) = nI (1000 - t) from ar_sub 1000 (by omega)]
    refine lv_aload_n hx hb dX11_moved_83 rfl (lv_at hl 0 rfl) ?_
    refine mq_get (ci := 15) (v := .int (nI ga)) (C := RX10) (T := TX10) (N := 4) hx hb hts nX10 hown hK hM h0 rfl 2 (by decide) w0 (fun _ h9 => h9) rfl dX11_moved_84 ?_
    refine lv_imul hx hb dX11_moved_87 ?_
    rw [show (nI (1000 - t)) * (nI ga) = nI ((1000 - t) * ga) from pk_mul _ _]
    refine lv_sipush (v := 1000) hx hb dX11_moved_88 (by decide) ?_
    refine lv_idiv hx hb dX11_moved_91 (by decide) ?_
    rw [show (nI ((1000 - t) * ga)) / 1000 = nI ((1000 - t) * ga / 1000) from pk_div (d := 1000) (by have := Nat.mul_le_mul (show 1000 - t ≤ 1000 by omega) hga; omega) (by decide) (by decide)]
    refine lv_iadd hx hb dX11_moved_92 ?_
    rw [show (nI t) + (nI ((1000 - t) * ga / 1000)) = nI (t + (1000 - t) * ga / 1000) from nI_add _ _]
    exact mq_iret (v := nI (t + (1000 - t) * ga / 1000)) hx hb hr hlocks hM hS (⟨rfl, by rw [ht]; rfl⟩) dX11_moved_93
  have K22 : ∀ (H : Heap) (locs : List Loc), mq_W G.1 A f H → va_S A s.heap H locs → ∀ (ls : Array Slot), lv_has ls 6 [(0, .ref x), (1, .int (nI pp)), (2, .int (zb z)), (3, .int (nI (mv_k sl pp z)))] → W p l e (headSpec wsX11_moved ({ frames := 0, cells := 0, slots := 0, locals := 0 } : Room)).room s m ([.ref x, .int (nI pp), .int (zb z)] : List Value).toArray below meth c H locs 0 0 (MQ below (mq_Qi G A (fun r g => f = g ∧ r = nI (mv gu sl ga pp z))) ([.ref x, .int (nI pp), .int (zb z)] : List Value).toArray s 0 0 A) (F0 m 22 ls []) := by
    intro H locs hM hS ls hl
    have K49 : ∀ (H : Heap) (locs : List Loc), mq_W G.1 A f H → va_S A s.heap H locs → ∀ (ls : Array Slot), lv_has ls 6 [(0, .ref x), (1, .int (nI pp)), (3, .int (nI (mv_k sl pp z))), (4, .int (nI (mv_u gu pp z)))] → W p l e (headSpec wsX11_moved ({ frames := 0, cells := 0, slots := 0, locals := 0 } : Room)).room s m ([.ref x, .int (nI pp), .int (zb z)] : List Value).toArray below meth c H locs 0 0 (MQ below (mq_Qi G A (fun r g => f = g ∧ r = nI (mv gu sl ga pp z))) ([.ref x, .int (nI pp), .int (zb z)] : List Value).toArray s 0 0 A) (F0 m 49 ls []) := by
      intro H locs hM hS ls hl
      refine lv_iload_n hx hb dX11_moved_49 rfl (lv_at hl 2 rfl) ?_
      refine lv_iload hx hb dX11_moved_50 (lv_at hl 3 rfl) ?_
      refine lv_iadd hx hb dX11_moved_52 ?_
      rw [show (nI (mv_k sl pp z)) + (nI (mv_u gu pp z)) = nI (mv_k sl pp z + mv_u gu pp z) from nI_add _ _]
      refine lv_if_ne (tgt := 60) hx hb dX11_moved_53 (by decide) (fun c_53 => ?_) (fun c_53 => ?_)
      · replace c_53 : ¬ nI (mv_k sl pp z + mv_u gu pp z) = nI 0 := c_53
        rw [nI_eq (by omega) (by omega)] at c_53
        refine lv_iload_n hx hb dX11_moved_60 rfl (lv_at hl 2 rfl) ?_
        refine lv_i2l hx hb dX11_moved_61 rfl ?_
        rw [show (nI (mv_k sl pp z)).toInt64 = lN (mv_k sl pp z) from nI_l (by omega)]
        refine lv_ldc2 hx hb hown w1 dX11_moved_62 ?_
        refine lv_lmul hx hb dX11_moved_65 ?_
        rw [show (lN (mv_k sl pp z)) * 1000 = lN (mv_k sl pp z * 1000) from lN_mul _ 1000]
        refine lv_iload_n hx hb dX11_moved_66 rfl (lv_at hl 2 rfl) ?_
        refine lv_iload hx hb dX11_moved_67 (lv_at hl 3 rfl) ?_
        refine lv_iadd hx hb dX11_moved_69 ?_
        rw [show (nI (mv_k sl pp z)) + (nI (mv_u gu pp z)) = nI (mv_k sl pp z + mv_u gu pp z) from nI_add _ _]
        refine lv_i2l hx hb dX11_moved_70 rfl ?_
        rw [show (nI (mv_k sl pp z + mv_u gu pp z)).toInt64 = lN (mv_k sl pp z + mv_u gu pp z) from nI_l (by omega)]
        refine lv_ldiv hx hb dX11_moved_71 (fun h9 => c_53 ((pk_lEQ (b := 0) (by omega) (by decide)).mp h9)) ?_
        rw [show (lN (mv_k sl pp z * 1000)) / (lN (mv_k sl pp z + mv_u gu pp z)) = lN (mv_k sl pp z * 1000 / (mv_k sl pp z + mv_u gu pp z)) from pk_lDiv (by omega) (by omega) (by omega)]
        refine lv_l2i hx hb dX11_moved_72 rfl ?_
        rw [show (lN (mv_k sl pp z * 1000 / (mv_k sl pp z + mv_u gu pp z))).toInt32 = nI (mv_k sl pp z * 1000 / (mv_k sl pp z + mv_u gu pp z)) from lN_i _]
        refine lv_istore (lv' := [(5, .int (nI (mv_k sl pp z * 1000 / (mv_k sl pp z + mv_u gu pp z)))), (0, .ref x), (1, .int (nI pp)), (3, .int (nI (mv_k sl pp z))), (4, .int (nI (mv_u gu pp z)))]) hx hb dX11_moved_73 hl (by decide) rfl (fun ls hl => ?_)
        exact K75 _ ((mv_t1 c_53).symm) _ _ hM hS _ (lv_sub hl [1, 0] rfl)
      · replace c_53 : nI (mv_k sl pp z + mv_u gu pp z) = nI 0 := c_53
        rw [nI_eq (by omega) (by omega)] at c_53
        refine lv_iload_n hx hb dX11_moved_56 rfl (lv_at hl 1 rfl) ?_
        refine lv_goto (tgt := 73) hx hb dX11_moved_57 (by decide) ?_
        refine lv_istore (lv' := [(5, .int (nI pp)), (0, .ref x), (1, .int (nI pp)), (3, .int (nI (mv_k sl pp z))), (4, .int (nI (mv_u gu pp z)))]) hx hb dX11_moved_73 hl (by decide) rfl (fun ls hl => ?_)
        exact K75 pp ((mv_t0 c_53).symm) _ _ hM hS _ (lv_sub hl [1, 0] rfl)
    refine lv_sipush (v := 1000) hx hb dX11_moved_22 (by decide) ?_
    refine lv_iload_n hx hb dX11_moved_25 rfl (lv_at hl 1 rfl) ?_
    refine lv_isub hx hb dX11_moved_26 ?_
    rw [show 1000 - (nI pp) = nI (1000 - pp) from ar_sub 1000 (by omega)]
    refine lv_iload_n hx hb dX11_moved_27 rfl (lv_at hl 2 rfl) ?_
    refine lv_if_eq (tgt := 38) hx hb dX11_moved_28 (by decide) (fun c_28 => ?_) (fun c_28 => ?_)
    · rw [zb_0] at c_28
      subst c_28
      refine lv_sipush (v := 1000) hx hb dX11_moved_38 (by decide) ?_
      refine lv_aload_n hx hb dX11_moved_41 rfl (lv_at hl 0 rfl) ?_
      refine mq_get (ci := 15) (v := .int (nI gu)) (C := RX10) (T := TX10) (N := 4) hx hb hts nX10 hown hK hM h0 rfl 0 (by decide) w2 (fun _ h9 => h9) rfl dX11_moved_42 ?_
      refine lv_isub hx hb dX11_moved_45 ?_
      rw [show 1000 - (nI gu) = nI (1000 - gu) from ar_sub 1000 (by omega)]
      refine lv_imul hx hb dX11_moved_46 ?_
      rw [show (nI (1000 - pp)) * (nI (1000 - gu)) = nI (mv_u gu pp false) from pk_mul _ _]
      refine lv_istore (lv' := [(4, .int (nI (mv_u gu pp false))), (0, .ref x), (1, .int (nI pp)), (2, .int (zb false)), (3, .int (nI (mv_k sl pp false)))]) hx hb dX11_moved_47 hl (by decide) rfl (fun ls hl => ?_)
      exact K49   _ _ hM hS _ (lv_sub hl [1, 2, 4, 0] rfl)
    · rw [zb_n0] at c_28
      subst c_28
      refine lv_aload_n hx hb dX11_moved_31 rfl (lv_at hl 0 rfl) ?_
      refine mq_get (ci := 15) (v := .int (nI gu)) (C := RX10) (T := TX10) (N := 4) hx hb hts nX10 hown hK hM h0 rfl 0 (by decide) w2 (fun _ h9 => h9) rfl dX11_moved_32 ?_
      refine lv_goto (tgt := 46) hx hb dX11_moved_35 (by decide) ?_
      refine lv_imul hx hb dX11_moved_46 ?_
      rw [show (nI (1000 - pp)) * (nI gu) = nI (mv_u gu pp true) from pk_mul _ _]
      refine lv_istore (lv' := [(4, .int (nI (mv_u gu pp true))), (0, .ref x), (1, .int (nI pp)), (2, .int (zb true)), (3, .int (nI (mv_k sl pp true)))]) hx hb dX11_moved_47 hl (by decide) rfl (fun ls hl => ?_)
      exact K49   _ _ hM hS _ (lv_sub hl [1, 2, 4, 0] rfl)
  refine lv_iload_n hx hb dX11_moved_0 rfl (lv_at hl 1 rfl) ?_
  refine lv_iload_n hx hb dX11_moved_1 rfl (lv_at hl 2 rfl) ?_
  refine lv_if_eq (tgt := 16) hx hb dX11_moved_2 (by decide) (fun c_2 => ?_) (fun c_2 => ?_)
  · rw [zb_0] at c_2
    subst c_2
    refine lv_aload_n hx hb dX11_moved_16 rfl (lv_at hl 0 rfl) ?_
    refine mq_get (ci := 15) (v := .int (nI sl)) (C := RX10) (T := TX10) (N := 4) hx hb hts nX10 hown hK hM h0 rfl 1 (by decide) w3 (fun _ h9 => h9) rfl dX11_moved_17 ?_
    refine lv_imul hx hb dX11_moved_20 ?_
    rw [show (nI pp) * (nI sl) = nI (mv_k sl pp false) from pk_mul _ _]
    refine lv_istore_n (lv' := [(3, .int (nI (mv_k sl pp false))), (0, .ref x), (1, .int (nI pp)), (2, .int (zb false))]) hx hb dX11_moved_21 rfl hl (by decide) rfl (fun ls hl => ?_)
    exact K22   _ _ hM hS _ (lv_sub hl [1, 2, 3, 0] rfl)
  · rw [zb_n0] at c_2
    subst c_2
    refine lv_sipush (v := 1000) hx hb dX11_moved_5 (by decide) ?_
    refine lv_aload_n hx hb dX11_moved_8 rfl (lv_at hl 0 rfl) ?_
    refine mq_get (ci := 15) (v := .int (nI sl)) (C := RX10) (T := TX10) (N := 4) hx hb hts nX10 hown hK hM h0 rfl 1 (by decide) w3 (fun _ h9 => h9) rfl dX11_moved_9 ?_
    refine lv_isub hx hb dX11_moved_12 ?_
    rw [show 1000 - (nI sl) = nI (1000 - sl) from ar_sub 1000 (by omega)]
    refine lv_goto (tgt := 20) hx hb dX11_moved_13 (by decide) ?_
    refine lv_imul hx hb dX11_moved_20 ?_
    rw [show (nI pp) * (nI (1000 - sl)) = nI (mv_k sl pp true) from pk_mul _ _]
    refine lv_istore_n (lv' := [(3, .int (nI (mv_k sl pp true))), (0, .ref x), (1, .int (nI pp)), (2, .int (zb true))]) hx hb dX11_moved_21 rfl hl (by decide) rfl (fun ls hl => ?_)
    exact K22   _ _ hM hS _ (lv_sub hl [1, 2, 3, 0] rfl)

theorem mvs_t {gu sl ga p i : Nat} {an : List Bool} (h : i < an.length) : mvs gu sl ga p (an.take (i + 1)) = mv gu sl ga (mvs gu sl ga p (an.take i)) (an.getD i false) := by
  rw [take_S h]
  exact mvs_snoc
abbrev spAnew2 (S : AT) (ua ub : Int32) : Nat × Int32 := spLS S ua ub (fun j k => (0, nI (mvs (aS S k).1 (aS S k).2.1 (aS S k).2.2.1 (mTo (aM S j k)) (mAn (aM S j k))))) 0

set_option maxHeartbeats 4000000 in
set_option maxRecDepth 100000 in
theorem c_X11_oddsAnew (l : Launch) (G : mq_G) (A : Nat → Prop) (f : mq_F) (ad : AD) (S : AT) (X : CX) (S2 : AT) (Y : MX) (O : OX) (T : Nat) (ua ub : Int32) : Met l yX11_oddsAnew wsX11_oddsAnew ({ frames := 11, cells := 1, slots := 4, locals := 206 } : Room) (mq_Pc G A f (WR G f ad S X S2 Y O ∧ mOK S2 Y T) [.ref (ad 20 0 0), .int ua, .int ub]) (mq_Qi G A (fun r g => ∃ c9, spAnew2 S2 ua ub = (c9, r) ∧ WR G g ad S X S2 (yThr Y (nI c9)) O)) 1 4 A := by
  refine Met.ofW (cc := cX11_oddsAnew) (maxL := 6) (ret := (some .int)) (by decide) rfl ?_
  intro p e s m args below meth c s₁ B hml hv
  obtain ⟨rfl, ⟨hK, hZ, hM, hA⟩, hp⟩ := hv
  have hx := B.exec
  have hb := B.bytes
  have hr := B.returns
  have hts := atoms_spec (ws := wsX11_oddsAnew) B.pre
  have hown : s.vm.findClass RX11 = some m.cls := findClass_of_methodNamed B.named
  have hlocks := B.notSynchronized
  have hS : va_S A s.heap s.heap [] := va_S.rf
  have hl := lv_entry ([.ref (ad 20 0 0), .int ua, .int ub]) (n := 6) (Nat.le_of_ble_eq_true rfl)
  rw [lg_entry_eq]
  generalize (lg_sl ([.ref (ad 20 0 0), .int ua, .int ub]) ++ List.replicate (6 - (lg_sl ([.ref (ad 20 0 0), .int ua, .int ub])).length) Slot.unset).toArray = ls at hl ⊢
  have hl : lv_has ls 6 [(0, .ref (ad 20 0 0)), (1, .int ua), (2, .int ub)] := hl
  have w0 := hts (.fieldLink RX11 19 "TutorlightModel" "thrown" "I") (List.mem_of_getElem? (i := 1) rfl)
  have w1 := hts (.fieldLink RX11 98 "TutorlightModel$Known" "base" "I") (List.mem_of_getElem? (i := 2) rfl)
  have w2 := hts (.fieldLink RX11 101 "TutorlightModel$Known" "answers" "Ljava/util/ArrayList;") (List.mem_of_getElem? (i := 3) rfl)
  have w3 := hts (.classLink RX11 111 "java/lang/Boolean") (List.mem_of_getElem? (i := 4) rfl)
  have w4 := hts (.fieldLink RX11 10 "TutorlightModel" "skills" "Ljava/util/ArrayList;") (List.mem_of_getElem? (i := 5) rfl)
  have w5 := hts (.classLink RX11 52 "TutorlightModel$Skill") (List.mem_of_getElem? (i := 6) rfl)
  have nX11 : ∀ w ∈ wsX110, w ∈ wsX11_oddsAnew := fun _ h => List.mem_cons_of_mem _ (List.mem_append_left _ (List.mem_append_left _ (List.mem_append_left _ (List.mem_append_left _ (List.mem_append_left _ (List.mem_append_left _ (List.mem_append_right _ h)))))))
  have nX8 : ∀ w ∈ wsX80, w ∈ wsX11_oddsAnew := fun _ h => List.mem_cons_of_mem _ (List.mem_append_left _ (List.mem_append_left _ (List.mem_append_left _ (List.mem_append_left _ (List.mem_append_left _ (List.mem_append_right _ h))))))
  obtain ⟨hR, hO⟩ := hp
  obtain ⟨⟨X9, ⟨hn, hl4, hd2, hT⟩, hsk, hma, hdc, hle, -⟩, ⟨hns, hnc⟩, ⟨hls, hlc⟩, hac, hmc⟩ := id hO
  have y20_170 := hR.1 _ _ _ _ (t20)
  refine lv_aload_n hx hb dX11_oddsAnew_0 rfl (lv_at hl 0 rfl) ?_
  refine lv_iconst (v := 0) hx hb dX11_oddsAnew_1 (by decide) ?_
  refine mq_put (ci := 16) (v := .int 0) (ty := .int) (C := RX11) (T := TX11) (N := 4) (fs' := [.int 0, .int (nI (aD S2)), .ref (ad 21 0 0), .ref (ad 23 0 0)]) hx hb hts nX11 tyX11 tyX11_ok nmX11 hown hK hM hS y20_170 rfl 0 (by decide) w0 (fun _ h9 => h9) rfl (by decide +kernel) rfl rfl (Nat.le_of_ble_eq_true rfl) dX11_oddsAnew_2 rfl (fun f_1 H locs e_2 hM hS => ?_)
  have h_3 : f_1 (ad 20 0 0) = some (.inr (16, [.int 0, .int (nI (aD S2)), .ref (ad 21 0 0), .ref (ad 23 0 0)])) := mq_s e_2
  have hR1 := WR_yt hR e_2
  refine lv_aload_n hx hb dX11_oddsAnew_5 rfl (lv_at hl 0 rfl) ?_
  refine lv_iload_n hx hb dX11_oddsAnew_6 rfl (lv_at hl 1 rfl) ?_
  refine lv_iload_n hx hb dX11_oddsAnew_7 rfl (lv_at hl 2 rfl) ?_
  refine mq_calli (va_runV (As := [.int ua, .int ub]) (rest := []) ⟨hx, hb, hml, hown, hts⟩ (c_X11_no l G A f_1 ad S X S2 (yThr Y 0) O T ua ub) (cwV 2 hts gX11_oddsAnew_X11_no rfl rfl rfl (by decide +kernel) ⟨Nat.le_of_ble_eq_true rfl, Nat.le_of_ble_eq_true rfl⟩) (mq_preV hK hZ hS hA hM (q := (RX11, TX11, 4)) h_3 rfl (⟨hR1, hO.thr 0, rfl⟩) _) rfl rfl hl.1 rfl (lv_room (Nat.le_of_ble_eq_true rfl)) dX11_oddsAnew_8 ⟨Nat.le_of_ble_eq_true rfl, Nat.le_of_ble_eq_true rfl⟩) hS (fun r8 g8 H locs p8 hM hS => ?_)
  refine W.widen (k := 0) (n := 0) (Nat.le_of_ble_eq_true rfl) (Nat.le_of_ble_eq_true rfl) ?_
  refine lv_if_eq (tgt := 16) hx hb dX11_oddsAnew_11 (by decide) (fun c_11 => ?_) (fun c_11 => ?_)
  · obtain ⟨rfl, j, k, hj, hk, rfl, rfl⟩ := no_0 p8 c_11
    refine lv_aload_n hx hb dX11_oddsAnew_16 rfl (lv_at hl 0 rfl) ?_
    refine lv_iload_n hx hb dX11_oddsAnew_17 rfl (lv_at hl 1 rfl) ?_
    refine lv_iload_n hx hb dX11_oddsAnew_18 rfl (lv_at hl 2 rfl) ?_
    refine mq_callq (va_runV (As := [.int (nI j), .int (nI k)]) (rest := []) ⟨hx, hb, hml, hown, hts⟩ (c_X11_of l G A f_1 ad S X S2 (yThr Y 0) O T j k) (cwV 2 hts gX11_oddsAnew_X11_of rfl rfl rfl (by decide +kernel) ⟨Nat.le_of_ble_eq_true rfl, Nat.le_of_ble_eq_true rfl⟩) (mq_preV hK hZ hS hA hM (q := (RX11, TX11, 4)) h_3 rfl (⟨hR1, (hO.thr 0), hj, by omega⟩) _) rfl rfl hl.1 rfl (lv_room (Nat.le_of_ble_eq_true rfl)) dX11_oddsAnew_19 ⟨Nat.le_of_ble_eq_true rfl, Nat.le_of_ble_eq_true rfl⟩) hS (fun r19 g19 H locs p19 hM hS => ?_)
    refine W.widen (k := 0) (n := 0) (Nat.le_of_ble_eq_true rfl) (Nat.le_of_ble_eq_true rfl) ?_
    obtain ⟨rfl, rfl⟩ := p19
    have hac1 := hac j k hj (by omega)
    have hac9 := (hma j k hj (by omega)).2.2.1
    have y29_161 := hR1.1 _ _ _ _ (t29 (j := j) (k := k) hj (by omega))
    have y30_162 := hR1.1 _ _ _ _ (t30 (j := j) (k := k) hj (by omega))
    refine mq_get (ci := 13) (v := .int (nI (mTo (aM S2 j k)))) (C := RX8) (T := TX8) (N := 6) hx hb hts nX8 hown hK hM y29_161 rfl 1 (by decide) w1 (fun _ h9 => h9) rfl dX11_oddsAnew_22 ?_
    refine lv_istore_n (lv' := [(3, .int (nI (mTo (aM S2 j k)))), (0, .ref (ad 20 0 0)), (1, .int (nI j)), (2, .int (nI k))]) hx hb dX11_oddsAnew_25 rfl hl (by decide) rfl (fun ls hl => ?_)
    refine lv_aload_n hx hb dX11_oddsAnew_26 rfl (lv_at hl 1 rfl) ?_
    refine lv_iload_n hx hb dX11_oddsAnew_27 rfl (lv_at hl 2 rfl) ?_
    refine lv_iload_n hx hb dX11_oddsAnew_28 rfl (lv_at hl 3 rfl) ?_
    refine mq_callq (va_runV (As := [.int (nI j), .int (nI k)]) (rest := []) ⟨hx, hb, hml, hown, hts⟩ (c_X11_of l G A f_1 ad S X S2 (yThr Y 0) O T j k) (cwV 2 hts gX11_oddsAnew_X11_of rfl rfl rfl (by decide +kernel) ⟨Nat.le_of_ble_eq_true rfl, Nat.le_of_ble_eq_true rfl⟩) (mq_preV hK hZ hS hA hM (q := (RX11, TX11, 4)) h_3 rfl (⟨hR1, (hO.thr 0), hj, by omega⟩) _) rfl rfl hl.1 rfl (lv_room (Nat.le_of_ble_eq_true rfl)) dX11_oddsAnew_29 ⟨Nat.le_of_ble_eq_true rfl, Nat.le_of_ble_eq_true rfl⟩) hS (fun r29 g29 H locs p29 hM hS => ?_)
    refine W.widen (k := 0) (n := 0) (Nat.le_of_ble_eq_true rfl) (Nat.le_of_ble_eq_true rfl) ?_
    obtain ⟨rfl, rfl⟩ := p29
    refine mq_get (ci := 13) (v := .ref (ad 30 j k)) (C := RX8) (T := TX8) (N := 6) hx hb hts nX8 hown hK hM y29_161 rfl 2 (by decide) w2 (fun _ h9 => h9) rfl dX11_oddsAnew_32 ?_
    refine mq_callq (va_runV (As := []) (rest := []) ⟨hx, hb, hml, hown, hts⟩ (c_Jx4a65c_iterator_32c93 l G A f_1 (ad 30 j k) (yA Y j k).1 (lsD G (yA Y j k).2 (ad 31 j k)) (mAn (aM S2 j k)).length) (cwV 0 hts gX11_oddsAnew_Jx4a65c_iterator_32c93 rfl rfl rfl (by decide +kernel) ⟨Nat.le_of_ble_eq_true rfl, Nat.le_of_ble_eq_true rfl⟩) (mq_preV hK hZ hS hA hM (q := (RJx4a65c, TJx4a65c, 3)) y30_162 rfl (y30_162) _) rfl rfl hl.1 rfl (lv_room (Nat.le_of_ble_eq_true rfl)) dX11_oddsAnew_35 ⟨Nat.le_of_ble_eq_true rfl, Nat.le_of_ble_eq_true rfl⟩) hS (fun r35 g35 H locs p35 hM hS => ?_)
    refine W.widen (k := 1) (n := 4) (Nat.le_of_ble_eq_true rfl) (Nat.le_of_ble_eq_true rfl) ?_
    obtain ⟨q35, er, hq35, hg35⟩ := p35
    subst er
    have h_4 : g35 (ad 20 0 0) = some (.inr (16, [.int 0, .int (nI (aD S2)), .ref (ad 21 0 0), .ref (ad 23 0 0)])) := mq_n hg35 h_3 (mq_neN h_3 hq35)
    have h_5 : g35 (ad 29 j k) = some (.inr (13, [.int (nI (mOd (aM S2 j k))), .int (nI (mTo (aM S2 j k))), .ref (ad 30 j k), .int (zb (mOp (aM S2 j k))), .int (nI (mRo (aM S2 j k))), .int (du (mDu (aM S2 j k)))])) := mq_n hg35 y29_161 (mq_neN y29_161 hq35)
    have h_6 : g35 (ad 30 j k) = some (.inr (4, [.int ((yA Y j k).1), .ref (lsD G (yA Y j k).2 (ad 31 j k)), .int (nI ((mAn (aM S2 j k)).length))])) := mq_n hg35 y30_162 (mq_neN y30_162 hq35)
    have h_7 : g35 q35 = some (.inr (3, [.int 0, .int (-1), .int ((yA Y j k).1), .ref (ad 30 j k)])) := mq_s hg35
    refine lv_astore (lv' := [(4, .ref q35), (3, .int (nI (mTo (aM S2 j k)))), (0, .ref (ad 20 0 0)), (1, .int (nI j)), (2, .int (nI k))]) hx hb dX11_oddsAnew_38 hl (by decide) rfl (fun ls hl => ?_)
    have K40 : ∀ (n9 : Nat) (i : Nat) (lr9 : Int32), ((mAn (aM S2 j k)).length - i) < n9 → (i ≤ (mAn (aM S2 j k)).length) → ∀ (f9 : mq_F), f9 q35 = some (.inr (3, [.int (nI i), .int lr9, .int ((yA Y j k).1), .ref (ad 30 j k)])) → (∀ y e, f_1 y = some e → f9 y = some e) → ∀ (H : Heap) (locs : List Loc), mq_W G.1 A f9 H → va_S A s.heap H locs → ∀ (ls : Array Slot), lv_has ls 6 [(0, .ref (ad 20 0 0)), (1, .int (nI j)), (2, .int (nI k)), (3, .int (nI (mvs (aS S2 k).1 (aS S2 k).2.1 (aS S2 k).2.2.1 (mTo (aM S2 j k)) ((mAn (aM S2 j k)).take i)))), (4, .ref q35)] → W p l e (headSpec wsX11_oddsAnew ({ frames := 11, cells := 1, slots := 4, locals := 206 } : Room)).room s m ([.ref (ad 20 0 0), .int (nI j), .int (nI k)] : List Value).toArray below meth c H locs 1 4 (MQ below (mq_Qi G A (fun r g => ∃ c9, spAnew2 S2 (nI j) (nI k) = (c9, r) ∧ WR G g ad S X S2 (yThr Y (nI c9)) O)) ([.ref (ad 20 0 0), .int (nI j), .int (nI k)] : List Value).toArray s 1 4 A) (F0 m 40 ls []) := by
      intro n9
      induction n9 with
      | zero => intro i lr9 hn9; exact absurd hn9 (Nat.not_lt_zero _)
      | succ n9 ih40 =>
        intro i lr9 hn9 hi f9 hq9 hk9 H locs hM hS ls hl
        have hR9 := RR.mono hR1 hk9
        have y30_169 := hR9.1 _ _ _ _ (t30 (j := j) (k := k) hj (by omega))
        refine lv_aload hx hb dX11_oddsAnew_40 (lv_at hl 4 rfl) ?_
        refine mq_callFi (va_runF (hK.1 3 _ rfl).2 (As := []) (rest := []) ⟨hx, hb, hml, hown, hts⟩ (c_Jx35411_hasNext_aae02 l G A f9 q35 (ad 30 j k) i lr9 (yA Y j k).1 (lsD G (yA Y j k).2 (ad 31 j k)) (mAn (aM S2 j k)).length) (va_cwF 0 hts gX11_oddsAnew_Jx35411_hasNext_aae02_f138Jx35411 rfl rfl rfl (mq_itf hZ (by decide)) ⟨by decide, by decide, by decide +kernel⟩ ⟨Nat.le_of_ble_eq_true rfl, Nat.le_of_ble_eq_true rfl⟩) (mq_preV hK hZ hS hA hM (q := (RJx35411, TJx35411, 4)) hq9 rfl (⟨hq9, y30_169, by omega, by omega⟩) _) rfl rfl hl.1 rfl (lv_room (Nat.le_of_ble_eq_true rfl)) dX11_oddsAnew_42 ⟨Nat.le_of_ble_eq_true rfl, Nat.le_of_ble_eq_true rfl⟩) hS (fun r42 g42 H locs p42 hM hS => ?_)
        refine W.widen (k := 1) (n := 4) (Nat.le_of_ble_eq_true rfl) (Nat.le_of_ble_eq_true rfl) ?_
        obtain ⟨rfl, rfl⟩ := p42
        refine lv_if_eq (tgt := 86) hx hb dX11_oddsAnew_47 (by decide) (fun c_47 => ?_) (fun c_47 => ?_)
        · replace c_47 : zb (decide (i ≠ (mAn (aM S2 j k)).length)) = 0 := c_47
          rw [zb_0] at c_47
          have hi2 : i = (mAn (aM S2 j k)).length := by simpa using c_47
          refine lv_iload_n hx hb dX11_oddsAnew_86 rfl (lv_at hl 3 rfl) ?_
          exact mq_iret (v := nI (mvs (aS S2 k).1 (aS S2 k).2.1 (aS S2 k).2.2.1 (mTo (aM S2 j k)) ((mAn (aM S2 j k)).take i))) hx hb hr hlocks hM hS (⟨0, (spLS_y hj hk hl4 hn).trans (by rw [hi2, List.take_of_length_le (Nat.le_refl _)]), hR9⟩) dX11_oddsAnew_87
        · replace c_47 : ¬ zb (decide (i ≠ (mAn (aM S2 j k)).length)) = 0 := c_47
          rw [zb_n0] at c_47
          have hi2 : i < (mAn (aM S2 j k)).length := Nat.lt_of_le_of_ne hi (by simpa using c_47)
          have hcs : (yS Y).2 ≠ 0 := by omega
          have hca : (yA Y j k).2 ≠ 0 := by have := hac1.1; omega
          have y20_163 := hR9.1 _ _ _ _ (t20)
          have y121_164 := hR9.1 _ _ _ _ (t121 hcs)
          have y22_165 := hR9.1 _ _ _ _ (t22 hcs)
          have y25_166 := hR9.1 _ _ _ _ (t25 (j := k) hk)
          have y130_167 := hR9.1 _ _ _ _ (t130 (j := j) (k := k) hca hj (by omega))
          have y31_168 := hR9.1 _ _ _ _ (t31 (j := j) (k := k) hca hj (by omega))
          refine lv_aload hx hb dX11_oddsAnew_50 (lv_at hl 4 rfl) ?_
          refine mq_callFq (va_runF (hK.1 3 _ rfl).2 (As := []) (rest := []) ⟨hx, hb, hml, hown, hts⟩ (c_Jx35411_next_0502b l G A f9 q35 (ad 30 j k) i lr9 (yA Y j k).1 (ad 31 j k) (yA Y j k).2 (mAn (aM S2 j k)).length (fun i => sB G ((mAn (aM S2 j k)).getD i false))) (va_cwF 0 hts gX11_oddsAnew_Jx35411_next_0502b_f144Jx35411 rfl rfl rfl (mq_itf hZ (by decide)) ⟨by decide, by decide, by decide +kernel⟩ ⟨Nat.le_of_ble_eq_true rfl, Nat.le_of_ble_eq_true rfl⟩) (mq_preV hK hZ hS hA hM (q := (RJx35411, TJx35411, 4)) hq9 rfl (⟨hq9, y130_167, y31_168, hi2, hac1.1, hac1.2⟩) _) rfl rfl hl.1 rfl (lv_room (Nat.le_of_ble_eq_true rfl)) dX11_oddsAnew_52 ⟨Nat.le_of_ble_eq_true rfl, Nat.le_of_ble_eq_true rfl⟩) hS (fun r52 g52 H locs p52 hM hS => ?_)
          refine W.widen (k := 1) (n := 4) (Nat.le_of_ble_eq_true rfl) (Nat.le_of_ble_eq_true rfl) ?_
          obtain ⟨hg52, rfl⟩ := p52
          have h_8 : g52 (ad 30 j k) = some (.inr (4, [.int ((yA Y j k).1), .ref (ad 31 j k), .int (nI ((mAn (aM S2 j k)).length))])) := mq_n hg52 y130_167 (mq_neN y30_162 hq35)
          have h_9 : g52 (ad 20 0 0) = some (.inr (16, [.int 0, .int (nI (aD S2)), .ref (ad 21 0 0), .ref (ad 23 0 0)])) := mq_n hg52 y20_163 (mq_neN h_3 hq35)
          have h_10 : g52 (ad 21 0 0) = some (.inr (4, [.int ((yS Y).1), .ref (ad 22 0 0), .int (nI (aN S2))])) := mq_n hg52 y121_164 (mq_neO y121_164 hq9 (by decide))
          have h_11 : g52 (ad 22 0 0) = some (.inl (G.2 8, (yS Y).2, .inr (.inr (.inr (.inr (rf_of (aN S2) (fun i => ad 25 i 0))))))) := mq_n hg52 y22_165 (mq_neB y22_165 hq9)
          have h_12 : g52 (ad 25 k 0) = some (.inr (15, [.int (nI ((aS S2 k).1)), .int (nI ((aS S2 k).2.1)), .int (nI ((aS S2 k).2.2.1)), .ref (ad 26 k 0)])) := mq_n hg52 y25_166 (mq_neO y25_166 hq9 (by decide))
          have h_13 : g52 (ad 31 j k) = some (.inl (G.2 8, (yA Y j k).2, .inr (.inr (.inr (.inr (rf_of ((mAn (aM S2 j k)).length) (fun i => sB G ((mAn (aM S2 j k)).getD i false)))))))) := mq_n hg52 y31_168 (mq_neB y31_168 hq9)
          have h_14 : g52 q35 = some (.inr (3, [.int (nI (i + 1)), .int (nI i), .int ((yA Y j k).1), .ref (ad 30 j k)])) := mq_s hg52
          refine mq_castG hx hb hown w3 (mq_recB hZ hS _) dX11_oddsAnew_57 ?_
          refine mq_calli (va_runV (As := []) (rest := []) ⟨hx, hb, hml, hown, hts⟩ (c_J14_booleanValue_aae02 l G A g52 ((mAn (aM S2 j k)).getD i false)) (cwV 0 hts gX11_oddsAnew_J14_booleanValue_aae02 rfl rfl rfl (by decide +kernel) ⟨Nat.le_of_ble_eq_true rfl, Nat.le_of_ble_eq_true rfl⟩) (mq_preVO hK hZ hS hA hM (mq_recB hZ hS _) (trivial) _) rfl rfl hl.1 rfl (lv_room (Nat.le_of_ble_eq_true rfl)) dX11_oddsAnew_60 ⟨Nat.le_of_ble_eq_true rfl, Nat.le_of_ble_eq_true rfl⟩) hS (fun r60 g60 H locs p60 hM hS => ?_)
          refine W.widen (k := 1) (n := 4) (Nat.le_of_ble_eq_true rfl) (Nat.le_of_ble_eq_true rfl) ?_
          obtain ⟨rfl, rfl⟩ := p60
          refine lv_istore (lv' := [(5, .int (zb ((mAn (aM S2 j k)).getD i false))), (0, .ref (ad 20 0 0)), (1, .int (nI j)), (2, .int (nI k)), (3, .int (nI (mvs (aS S2 k).1 (aS S2 k).2.1 (aS S2 k).2.2.1 (mTo (aM S2 j k)) ((mAn (aM S2 j k)).take i)))), (4, .ref q35)]) hx hb dX11_oddsAnew_63 hl (by decide) rfl (fun ls hl => ?_)
          refine lv_aload_n hx hb dX11_oddsAnew_65 rfl (lv_at hl 1 rfl) ?_
          refine mq_get (ci := 16) (v := .ref (ad 21 0 0)) (C := RX11) (T := TX11) (N := 4) hx hb hts nX11 hown hK hM h_9 rfl 2 (by decide) w4 (fun _ h9 => h9) rfl dX11_oddsAnew_66 ?_
          refine lv_iload_n hx hb dX11_oddsAnew_69 rfl (lv_at hl 3 rfl) ?_
          refine mq_callq (va_runV (As := [.int (nI k)]) (rest := []) ⟨hx, hb, hml, hown, hts⟩ (c_Jx4a65c_get_915e3 l G A g52 (ad 21 0 0) (yS Y).1 (ad 22 0 0) (yS Y).2 (aN S2) k (fun i => ad 25 i 0)) (cwV 1 hts gX11_oddsAnew_Jx4a65c_get_915e3 rfl rfl rfl (by decide +kernel) ⟨Nat.le_of_ble_eq_true rfl, Nat.le_of_ble_eq_true rfl⟩) (mq_preV hK hZ hS hA hM (q := (RJx4a65c, TJx4a65c, 3)) h_10 rfl (⟨h_10, h_11, hk, hns, by omega⟩) _) rfl rfl hl.1 rfl (lv_room (Nat.le_of_ble_eq_true rfl)) dX11_oddsAnew_70 ⟨Nat.le_of_ble_eq_true rfl, Nat.le_of_ble_eq_true rfl⟩) hS (fun r70 g70 H locs p70 hM hS => ?_)
          refine W.widen (k := 1) (n := 4) (Nat.le_of_ble_eq_true rfl) (Nat.le_of_ble_eq_true rfl) ?_
          obtain ⟨rfl, rfl⟩ := p70
          refine mq_castG hx hb hown w5 (mq_recv hK hM h_12 rfl) dX11_oddsAnew_73 ?_
          refine lv_iload_n hx hb dX11_oddsAnew_76 rfl (lv_at hl 4 rfl) ?_
          refine lv_iload hx hb dX11_oddsAnew_77 (lv_at hl 0 rfl) ?_
          refine mq_calli (va_runS (As := [.ref (ad 25 k 0), .int (nI (mvs (aS S2 k).1 (aS S2 k).2.1 (aS S2 k).2.2.1 (mTo (aM S2 j k)) ((mAn (aM S2 j k)).take i))), .int (zb ((mAn (aM S2 j k)).getD i false))]) (rest := []) ⟨hx, hb, hml, hown, hts⟩ (c_X11_moved l G A g52 (ad 25 k 0) (aS S2 k).1 (aS S2 k).2.1 (aS S2 k).2.2.1 (ad 26 k 0) (mvs (aS S2 k).1 (aS S2 k).2.1 (aS S2 k).2.2.1 (mTo (aM S2 j k)) ((mAn (aM S2 j k)).take i)) ((mAn (aM S2 j k)).getD i false)) (va_cwS 3 hts gX11_oddsAnew_X11_moved rfl rfl rfl (by decide +kernel) ⟨Nat.le_of_ble_eq_true rfl, Nat.le_of_ble_eq_true rfl⟩) (mq_preS hK hZ hS hA hM (⟨h_12, (hsk k hk).1, (hsk k hk).2.1, (hsk k hk).2.2.1, mvs_le (hsk k hk).2.2.1 _ (hma j k hj (by omega)).2.1⟩) _) rfl rfl hl.1 rfl (lv_room (Nat.le_of_ble_eq_true rfl)) dX11_oddsAnew_79 ⟨Nat.le_of_ble_eq_true rfl, Nat.le_of_ble_eq_true rfl⟩) hS (fun r79 g79 H locs p79 hM hS => ?_)
          refine W.widen (k := 1) (n := 4) (Nat.le_of_ble_eq_true rfl) (Nat.le_of_ble_eq_true rfl) ?_
          obtain ⟨rfl, rfl⟩ := p79
          rw [← mvs_t hi2]
          refine lv_istore_n (lv' := [(3, .int (nI (mvs (aS S2 k).1 (aS S2 k).2.1 (aS S2 k).2.2.1 (mTo (aM S2 j k)) ((mAn (aM S2 j k)).take (i + 1))))), (5, .int (zb ((mAn (aM S2 j k)).getD i false))), (0, .ref (ad 20 0 0)), (1, .int (nI j)), (2, .int (nI k)), (4, .ref q35)]) hx hb dX11_oddsAnew_82 rfl hl (by decide) rfl (fun ls hl => ?_)
          refine lv_goto (tgt := 40) hx hb dX11_oddsAnew_83 (by decide) ?_
          exact W.widen (by omega) (by omega) (ih40 (i + 1) (nI i) (by omega) (by omega) _ h_14 (fun y e he => mq_n hg52 (hk9 y e he) (mq_neN he hq35)) _ _ hM hS _ (lv_sub hl [2, 3, 4, 0, 5] rfl))
    exact W.widen (by omega) (by omega) (K40 _ 0 (-1) (Nat.lt_succ_self _) (Nat.zero_le _) _ h_7 (fun y e he => mq_n hg35 he (mq_neN he hq35)) _ _ hM hS _ (lv_sub hl [2, 3, 4, 1, 0] rfl))
  · obtain ⟨hno, hR9⟩ := no_1 p8 c_11
    refine lv_iconst (v := 0) hx hb dX11_oddsAnew_14 (by decide) ?_
    refine W.widen (k := 1) (n := 4) (Nat.le_of_ble_eq_true rfl) (Nat.le_of_ble_eq_true rfl) ?_
    exact mq_iret (v := 0) hx hb hr hlocks hM hS (⟨1, spLS_n hno, hR9⟩) dX11_oddsAnew_15
