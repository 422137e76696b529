/-! THE REFERENCE: how odds move -/

set_option maxHeartbeats 4000000 in
set_option maxRecDepth 100000 in
theorem c_X11_moved (l : Launch) (G : mq_G) (A : Nat → Prop) (f : mq_F) (x gu sl ga nd pp : Nat) (z : Bool) : Met l yX11_moved wsX11_moved ({ frames := 0, cells := 0, slots := 0, locals := 0 } : Room) (mq_Pc G A f (f x = some (.inr (15, [.int (nI gu), .int (nI sl), .int (nI ga), .ref nd])) ∧ gu ≤ 500 ∧ sl ≤ 500 ∧ ga ≤ 500 ∧ pp ≤ 1000) [.ref x, .int (nI pp), .int (zb z)]) (mq_Qi G A (fun r g => f = g ∧ r = nI (mv gu sl ga pp z))) 0 0 A := by
  refine Met.ofW (cc := cX11_moved) (maxL := 6) (ret := (some .int)) (by decide) rfl ?_
  intro p e s m args below meth c s₁ B hml hv
  obtain ⟨rfl, ⟨hK, hZ, hM, hA⟩, hp⟩ := hv
  have hx := B.exec
  have hb := B.bytes
  have hr := B.returns
  have hts := atoms_spec (ws := wsX11_moved) B.pre
  have hown : s.vm.findClass RX11 = some m.cls := findClass_of_methodNamed B.named
  have hlocks := B.notSynchronized
  have hS : va_S A s.heap s.heap [] := va_S.rf
  have hl := lv_entry ([.ref x, .int (nI pp), .int (zb z)]) (n := 6) (Nat.le_of_ble_eq_true rfl)
  rw [lg_entry_eq]
  generalize (lg_sl ([.ref x, .int (nI pp), .int (zb z)]) ++ List.replicate (6 - (lg_sl ([.ref x, .int (nI pp), .int (zb z)])).length) Slot.unset).toArray = ls at hl ⊢
  have hl : lv_has ls 6 [(0, .ref x), (1, .int (nI pp)), (2, .int (zb z))] := hl
  have w0 := hts (.fieldLink RX11 61 "TutorlightModel$Skill" "gain" "I") (List.mem_of_getElem? (i := 4) rfl)
  have w1 := hts (.constantLong RX11 96 (1000)) (List.mem_of_getElem? (i := 3) rfl)
  have w2 := hts (.fieldLink RX11 55 "TutorlightModel$Skill" "guess" "I") (List.mem_of_getElem? (i := 2) rfl)
  have w3 := hts (.fieldLink RX11 58 "TutorlightModel$Skill" "slip" "I") (List.mem_of_getElem? (i := 1) rfl)
  have nX10 : ∀ w ∈ wsX100, w ∈ wsX11_moved := fun _ h => List.mem_cons_of_mem _ (List.mem_append_left _ (List.mem_append_right _ h))
  obtain ⟨h0, hg, hs, hga, hpp⟩ := hp
  have bk := mv_k_le (z := z) hs hpp
  have bu := mv_u_le (p := pp) (z := z) hg
  have bt := mv_t_le (gu := gu) (sl := sl) (z := z) hpp
  have K75 : ∀ (t : Nat), (t = mv_t gu sl pp z) → ∀ (H : Heap) (locs : List Loc), mq_W G.1 A f H → va_S A s.heap H locs → ∀ (ls : Array Slot), lv_has ls 6 [(0, .ref x), (5, .int (nI t))] → W p l e (headSpec wsX11_moved ({ frames := 0, cells := 0, slots := 0, locals := 0 } : Room)).room s m ([.ref x, .int (nI pp), .int (zb z)] : List Value).toArray below meth c H locs 0 0 (MQ below (mq_Qi G A (fun r g => f = g ∧ r = nI (mv gu sl ga pp z))) ([.ref x, .int (nI pp), .int (zb z)] : List Value).toArray s 0 0 A) (F0 m 75 ls []) := by
    intro t ht H locs hM hS ls hl
    refine lv_iload hx hb dX11_moved_75 (lv_at hl 1 rfl) ?_
    refine lv_sipush (v := 1000) hx hb dX11_moved_77 (by decide) ?_
    refine lv_iload hx hb dX11_moved_80 (lv_at hl 1 rfl) ?_
    refine lv_isub hx hb dX11_moved_82 ?_
    rw [show 1000 - (nI t) = nI (1000 - t) from ar_sub 1000 (by omega)]
    refine lv_aload_n hx hb dX11_moved_83 rfl (lv_at hl 0 rfl) ?_
    refine mq_get (ci := 15) (v := .int (nI ga)) (C := RX10) (T := TX10) (N := 4) hx hb hts nX10 hown hK hM h0 rfl 2 (by decide) w0 (fun _ h9 => h9) rfl dX11_moved_84 ?_
    refine lv_imul hx hb dX11_moved_87 ?_
    rw [show (nI (1000 - t)) * (nI ga) = nI ((1000 - t) * ga) from pk_mul _ _]
    refine lv_sipush (v := 1000) hx hb dX11_moved_88 (by decide) ?_
    refine lv_idiv hx hb dX11_moved_91 (by decide) ?_
    rw [show (nI ((1000 - t) * ga)) / 1000 = nI ((1000 - t) * ga / 1000) from pk_div (d := 1000) (by have := Nat.mul_le_mul (show 1000 - t ≤ 1000 by omega) hga; omega) (by decide) (by decide)]
    refine lv_iadd hx hb dX11_moved_92 ?_
    rw [show (nI t) + (nI ((1000 - t) * ga / 1000)) = nI (t + (1000 - t) * ga / 1000) from nI_add _ _]
    exact mq_iret (v := nI (t + (1000 - t) * ga / 1000)) hx hb hr hlocks hM hS (⟨rfl, by rw [ht]; rfl⟩) dX11_moved_93
  have K22 : ∀ (H : Heap) (locs : List Loc), mq_W G.1 A f H → va_S A s.heap H locs → ∀ (ls : Array Slot), lv_has ls 6 [(0, .ref x), (1, .int (nI pp)), (2, .int (zb z)), (3, .int (nI (mv_k sl pp z)))] → W p l e (headSpec wsX11_moved ({ frames := 0, cells := 0, slots := 0, locals := 0 } : Room)).room s m ([.ref x, .int (nI pp), .int (zb z)] : List Value).toArray below meth c H locs 0 0 (MQ below (mq_Qi G A (fun r g => f = g ∧ r = nI (mv gu sl ga pp z))) ([.ref x, .int (nI pp), .int (zb z)] : List Value).toArray s 0 0 A) (F0 m 22 ls []) := by
    intro H locs hM hS ls hl
    have K49 : ∀ (H : Heap) (locs : List Loc), mq_W G.1 A f H → va_S A s.heap H locs → ∀ (ls : Array Slot), lv_has ls 6 [(0, .ref x), (1, .int (nI pp)), (3, .int (nI (mv_k sl pp z))), (4, .int (nI (mv_u gu pp z)))] → W p l e (headSpec wsX11_moved ({ frames := 0, cells := 0, slots := 0, locals := 0 } : Room)).room s m ([.ref x, .int (nI pp), .int (zb z)] : List Value).toArray below meth c H locs 0 0 (MQ below (mq_Qi G A (fun r g => f = g ∧ r = nI (mv gu sl ga pp z))) ([.ref x, .int (nI pp), .int (zb z)] : List Value).toArray s 0 0 A) (F0 m 49 ls []) := by
      intro H locs hM hS ls hl
      refine lv_iload_n hx hb dX11_moved_49 rfl (lv_at hl 2 rfl) ?_
      refine lv_iload hx hb dX11_moved_50 (lv_at hl 3 rfl) ?_
      refine lv_iadd hx hb dX11_moved_52 ?_
      rw [show (nI (mv_k sl pp z)) + (nI (mv_u gu pp z)) = nI (mv_k sl pp z + mv_u gu pp z) from nI_add _ _]
      refine lv_if_ne (tgt := 60) hx hb dX11_moved_53 (by decide) (fun c_53 => ?_) (fun c_53 => ?_)
      · replace c_53 : ¬ nI (mv_k sl pp z + mv_u gu pp z) = nI 0 := c_53
        rw [nI_eq (by omega) (by omega)] at c_53
        refine lv_iload_n hx hb dX11_moved_60 rfl (lv_at hl 2 rfl) ?_
        refine lv_i2l hx hb dX11_moved_61 rfl ?_
        rw [show (nI (mv_k sl pp z)).toInt64 = lN (mv_k sl pp z) from nI_l (by omega)]
        refine lv_ldc2 hx hb hown w1 dX11_moved_62 ?_
        refine lv_lmul hx hb dX11_moved_65 ?_
        rw [show (lN (mv_k sl pp z)) * 1000 = lN (mv_k sl pp z * 1000) from lN_mul _ 1000]
        refine lv_iload_n hx hb dX11_moved_66 rfl (lv_at hl 2 rfl) ?_
        refine lv_iload hx hb dX11_moved_67 (lv_at hl 3 rfl) ?_
        refine lv_iadd hx hb dX11_moved_69 ?_
        rw [show (nI (mv_k sl pp z)) + (nI (mv_u gu pp z)) = nI (mv_k sl pp z + mv_u gu pp z) from nI_add _ _]
        refine lv_i2l hx hb dX11_moved_70 rfl ?_
        rw [show (nI (mv_k sl pp z + mv_u gu pp z)).toInt64 = lN (mv_k sl pp z + mv_u gu pp z) from nI_l (by omega)]
        refine lv_ldiv hx hb dX11_moved_71 (fun h9 => c_53 ((pk_lEQ (b := 0) (by omega) (by decide)).mp h9)) ?_
        rw [show (lN (mv_k sl pp z * 1000)) / (lN (mv_k sl pp z + mv_u gu pp z)) = lN (mv_k sl pp z * 1000 / (mv_k sl pp z + mv_u gu pp z)) from pk_lDiv (by omega) (by omega) (by omega)]
        refine lv_l2i hx hb dX11_moved_72 rfl ?_
        rw [show (lN (mv_k sl pp z * 1000 / (mv_k sl pp z + mv_u gu pp z))).toInt32 = nI (mv_k sl pp z * 1000 / (mv_k sl pp z + mv_u gu pp z)) from lN_i _]
        refine lv_istore (lv' := [(5, .int (nI (mv_k sl pp z * 1000 / (mv_k sl pp z + mv_u gu pp z)))), (0, .ref x), (1, .int (nI pp)), (3, .int (nI (mv_k sl pp z))), (4, .int (nI (mv_u gu pp z)))]) hx hb dX11_moved_73 hl (by decide) rfl (fun ls hl => ?_)
        exact K75 _ ((mv_t1 c_53).symm) _ _ hM hS _ (lv_sub hl [1, 0] rfl)
      · replace c_53 : nI (mv_k sl pp z + mv_u gu pp z) = nI 0 := c_53
        rw [nI_eq (by omega) (by omega)] at c_53
        refine lv_iload_n hx hb dX11_moved_56 rfl (lv_at hl 1 rfl) ?_
        refine lv_goto (tgt := 73) hx hb dX11_moved_57 (by decide) ?_
        refine lv_istore (lv' := [(5, .int (nI pp)), (0, .ref x), (1, .int (nI pp)), (3, .int (nI (mv_k sl pp z))), (4, .int (nI (mv_u gu pp z)))]) hx hb dX11_moved_73 hl (by decide) rfl (fun ls hl => ?_)
        exact K75 pp ((mv_t0 c_53).symm) _ _ hM hS _ (lv_sub hl [1, 0] rfl)
    refine lv_sipush (v := 1000) hx hb dX11_moved_22 (by decide) ?_
    refine lv_iload_n hx hb dX11_moved_25 rfl (lv_at hl 1 rfl) ?_
    refine lv_isub hx hb dX11_moved_26 ?_
    rw [show 1000 - (nI pp) = nI (1000 - pp) from ar_sub 1000 (by omega)]
    refine lv_iload_n hx hb dX11_moved_27 rfl (lv_at hl 2 rfl) ?_
    refine lv_if_eq (tgt := 38) hx hb dX11_moved_28 (by decide) (fun c_28 => ?_) (fun c_28 => ?_)
    · rw [zb_0] at c_28
      subst c_28
      refine lv_sipush (v := 1000) hx hb dX11_moved_38 (by decide) ?_
      refine lv_aload_n hx hb dX11_moved_41 rfl (lv_at hl 0 rfl) ?_
      refine mq_get (ci := 15) (v := .int (nI gu)) (C := RX10) (T := TX10) (N := 4) hx hb hts nX10 hown hK hM h0 rfl 0 (by decide) w2 (fun _ h9 => h9) rfl dX11_moved_42 ?_
      refine lv_isub hx hb dX11_moved_45 ?_
      rw [show 1000 - (nI gu) = nI (1000 - gu) from ar_sub 1000 (by omega)]
      refine lv_imul hx hb dX11_moved_46 ?_
      rw [show (nI (1000 - pp)) * (nI (1000 - gu)) = nI (mv_u gu pp false) from pk_mul _ _]
      refine lv_istore (lv' := [(4, .int (nI (mv_u gu pp false))), (0, .ref x), (1, .int (nI pp)), (2, .int (zb false)), (3, .int (nI (mv_k sl pp false)))]) hx hb dX11_moved_47 hl (by decide) rfl (fun ls hl => ?_)
      exact K49   _ _ hM hS _ (lv_sub hl [1, 2, 4, 0] rfl)
    · rw [zb_n0] at c_28
      subst c_28
      refine lv_aload_n hx hb dX11_moved_31 rfl (lv_at hl 0 rfl) ?_
      refine mq_get (ci := 15) (v := .int (nI gu)) (C := RX10) (T := TX10) (N := 4) hx hb hts nX10 hown hK hM h0 rfl 0 (by decide) w2 (fun _ h9 => h9) rfl dX11_moved_32 ?_
      refine lv_goto (tgt := 46) hx hb dX11_moved_35 (by decide) ?_
      refine lv_imul hx hb dX11_moved_46 ?_
      rw [show (nI (1000 - pp)) * (nI gu) = nI (mv_u gu pp true) from pk_mul _ _]
      refine lv_istore (lv' := [(4, .int (nI (mv_u gu pp true))), (0, .ref x), (1, .int (nI pp)), (2, .int (zb true)), (3, .int (nI (mv_k sl pp true)))]) hx hb dX11_moved_47 hl (by decide) rfl (fun ls hl => ?_)
      exact K49   _ _ hM hS _ (lv_sub hl [1, 2, 4, 0] rfl)
  refine lv_iload_n hx hb dX11_moved_0 rfl (lv_at hl 1 rfl) ?_
  refine lv_iload_n hx hb dX11_moved_1 rfl (lv_at hl 2 rfl) ?_
  refine lv_if_eq (tgt := 16) hx hb dX11_moved_2 (by decide) (fun c_2 => ?_) (fun c_2 => ?_)
  · rw [zb_0] at c_2
    subst c_2
    refine lv_aload_n hx hb dX11_moved_16 rfl (lv_at hl 0 rfl) ?_
    refine mq_get (ci := 15) (v := .int (nI sl)) (C := RX10) (T := TX10) (N := 4) hx hb hts nX10 hown hK hM h0 rfl 1 (by decide) w3 (fun _ h9 => h9) rfl dX11_moved_17 ?_
    refine lv_imul hx hb dX11_moved_20 ?_
    rw [show (nI pp) * (nI sl) = nI (mv_k sl pp false) from pk_mul _ _]
    refine lv_istore_n (lv' := [(3, .int (nI (mv_k sl pp false))), (0, .ref x), (1, .int (nI pp)), (2, .int (zb false))]) hx hb dX11_moved_21 rfl hl (by decide) rfl (fun ls hl => ?_)
    exact K22   _ _ hM hS _ (lv_sub hl [1, 2, 3, 0] rfl)
  · rw [zb_n0] at c_2
    subst c_2
    refine lv_sipush (v := 1000) hx hb dX11_moved_5 (by decide) ?_
    refine lv_aload_n hx hb dX11_moved_8 rfl (lv_at hl 0 rfl) ?_
    refine mq_get (ci := 15) (v := .int (nI sl)) (C := RX10) (T := TX10) (N := 4) hx hb hts nX10 hown hK hM h0 rfl 1 (by decide) w3 (fun _ h9 => h9) rfl dX11_moved_9 ?_
    refine lv_isub hx hb dX11_moved_12 ?_
    rw [show 1000 - (nI sl) = nI (1000 - sl) from ar_sub 1000 (by omega)]
    refine lv_goto (tgt := 20) hx hb dX11_moved_13 (by decide) ?_
    refine lv_imul hx hb dX11_moved_20 ?_
    rw [show (nI pp) * (nI (1000 - sl)) = nI (mv_k sl pp true) from pk_mul _ _]
    refine lv_istore_n (lv' := [(3, .int (nI (mv_k sl pp true))), (0, .ref x), (1, .int (nI pp)), (2, .int (zb true))]) hx hb dX11_moved_21 rfl hl (by decide) rfl (fun ls hl => ?_)
    exact K22   _ _ hM hS _ (lv_sub hl [1, 2, 3, 0] rfl)
