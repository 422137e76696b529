/-! THE REFERENCE: whether a skill is open, how many are due, its first readers -/

set_option maxHeartbeats 4000000 in
set_option maxRecDepth 100000 in
theorem c_X11_openFor (l : Launch) (G : mq_G) (A : Nat → Prop) (f : mq_F) (ad : AD) (S : AT) (X : CX) (S2 : AT) (Y : MX) (O : OX) (T : Nat) (j k : Nat) : Met l yX11_openFor wsX11_openFor ({ frames := 11, cells := 0, slots := 0, locals := 206 } : Room) (mq_Pc G A f (WR G f ad S X S2 Y O ∧ mOK S2 Y T ∧ j < aL S2 ∧ k < aN S2) [.ref (ad 20 0 0), .int (nI j), .int (nI k)]) (mq_Qi G A (fun r g => f = g ∧ r = zb (opn S2 j k))) 0 0 A := by
  refine Met.ofW (cc := cX11_openFor) (maxL := 5) (ret := (some .boolean)) (by decide) rfl ?_
  intro p e s m args below meth c s₁ B hml hv
  obtain ⟨rfl, ⟨hK, hZ, hM, hA⟩, hp⟩ := hv
  have hx := B.exec
  have hb := B.bytes
  have hr := B.returns
  have hts := atoms_spec (ws := wsX11_openFor) B.pre
  have hown : s.vm.findClass RX11 = some m.cls := findClass_of_methodNamed B.named
  have hlocks := B.notSynchronized
  have hS : va_S A s.heap s.heap [] := va_S.rf
  have hl := lv_entry ([.ref (ad 20 0 0), .int (nI j), .int (nI k)]) (n := 5) (Nat.le_of_ble_eq_true rfl)
  rw [lg_entry_eq]
  generalize (lg_sl ([.ref (ad 20 0 0), .int (nI j), .int (nI k)]) ++ List.replicate (5 - (lg_sl ([.ref (ad 20 0 0), .int (nI j), .int (nI k)])).length) Slot.unset).toArray = ls at hl ⊢
  have hl : lv_has ls 5 [(0, .ref (ad 20 0 0)), (1, .int (nI j)), (2, .int (nI k))] := hl
  have w0 := hts (.fieldLink RX11 10 "TutorlightModel" "skills" "Ljava/util/ArrayList;") (List.mem_of_getElem? (i := 1) rfl)
  have w1 := hts (.fieldLink RX11 86 "TutorlightModel$Known" "isOpened" "Z") (List.mem_of_getElem? (i := 5) rfl)
  have w2 := hts (.classLink RX11 52 "TutorlightModel$Skill") (List.mem_of_getElem? (i := 2) rfl)
  have w3 := hts (.fieldLink RX11 68 "TutorlightModel$Skill" "needs" "[Z") (List.mem_of_getElem? (i := 3) rfl)
  have w4 := hts (.fieldLink RX11 81 "TutorlightModel$Known" "odds" "I") (List.mem_of_getElem? (i := 4) rfl)
  have nX11 : ∀ w ∈ wsX110, w ∈ wsX11_openFor := fun _ h => List.mem_cons_of_mem _ (List.mem_append_left _ (List.mem_append_left _ (List.mem_append_left _ (List.mem_append_left _ (List.mem_append_left _ (List.mem_append_right _ h))))))
  have nX8 : ∀ w ∈ wsX80, w ∈ wsX11_openFor := fun _ h => List.mem_cons_of_mem _ (List.mem_append_left _ (List.mem_append_left _ (List.mem_append_left _ (List.mem_append_right _ h))))
  have nX10 : ∀ w ∈ wsX100, w ∈ wsX11_openFor := fun _ h => List.mem_cons_of_mem _ (List.mem_append_left _ (List.mem_append_left _ (List.mem_append_left _ (List.mem_append_left _ (List.mem_append_right _ h)))))
  obtain ⟨hR, hO, hj, hk⟩ := hp
  obtain ⟨⟨X9, ⟨hn, hl4, hd2, hT⟩, hsk, hma, hdc, hle, -⟩, ⟨hns, hnc⟩, ⟨hls, hlc⟩, hac, hmc⟩ := id hO
  have y20_148 := hR.1 _ _ _ _ (t20)
  have y21_149 := hR.1 _ _ _ _ (t21)
  refine lv_iconst (v := 1) hx hb dX11_openFor_0 (by decide) ?_
  refine lv_istore_n (lv' := [(3, .int 1), (0, .ref (ad 20 0 0)), (1, .int (nI j)), (2, .int (nI k))]) hx hb dX11_openFor_1 rfl hl (by decide) rfl (fun ls hl => ?_)
  refine lv_iconst (v := 0) hx hb dX11_openFor_2 (by decide) ?_
  refine lv_istore (lv' := [(4, .int 0), (3, .int 1), (0, .ref (ad 20 0 0)), (1, .int (nI j)), (2, .int (nI k))]) hx hb dX11_openFor_3 hl (by decide) rfl (fun ls hl => ?_)
  have K5 : ∀ (n9 : Nat) (i : Nat) (b9 : Int32), (aN S2 - i) < n9 → (i ≤ aN S2) → (b9 = zb (allB (opF S2 j k) i)) → ∀ (H : Heap) (locs : List Loc), mq_W G.1 A f H → va_S A s.heap H locs → ∀ (ls : Array Slot), lv_has ls 5 [(0, .ref (ad 20 0 0)), (1, .int (nI j)), (2, .int (nI k)), (3, .int b9), (4, .int (nI i))] → W p l e (headSpec wsX11_openFor ({ frames := 11, cells := 0, slots := 0, locals := 206 } : Room)).room s m ([.ref (ad 20 0 0), .int (nI j), .int (nI k)] : List Value).toArray below meth c H locs 0 0 (MQ below (mq_Qi G A (fun r g => f = g ∧ r = zb (opn S2 j k))) ([.ref (ad 20 0 0), .int (nI j), .int (nI k)] : List Value).toArray s 0 0 A) (F0 m 5 ls []) := by
    intro n9
    induction n9 with
    | zero => intro i b9 hn9; exact absurd hn9 (Nat.not_lt_zero _)
    | succ n9 ih5 =>
      intro i b9 hn9 hi hq H locs hM hS ls hl
      refine lv_iload hx hb dX11_openFor_5 (lv_at hl 4 rfl) ?_
      refine lv_aload_n hx hb dX11_openFor_7 rfl (lv_at hl 0 rfl) ?_
      refine mq_get (ci := 16) (v := .ref (ad 21 0 0)) (C := RX11) (T := TX11) (N := 4) hx hb hts nX11 hown hK hM y20_148 rfl 2 (by decide) w0 (fun _ h9 => h9) rfl dX11_openFor_8 ?_
      refine mq_calli (va_runV (As := []) (rest := [.int (nI i)]) ⟨hx, hb, hml, hown, hts⟩ (c_Jx4a65c_size_8abf5 l G A f (ad 21 0 0) (yS Y).1 (lsD G (yS Y).2 (ad 22 0 0)) (aN S2)) (cwV 0 hts gX11_openFor_Jx4a65c_size_8abf5 rfl rfl rfl (by decide +kernel) ⟨Nat.le_of_ble_eq_true rfl, Nat.le_of_ble_eq_true rfl⟩) (mq_preV hK hZ hS hA hM (q := (RJx4a65c, TJx4a65c, 3)) y21_149 rfl (y21_149) _) rfl rfl hl.1 rfl (lv_room (Nat.le_of_ble_eq_true rfl)) dX11_openFor_11 ⟨Nat.le_of_ble_eq_true rfl, Nat.le_of_ble_eq_true rfl⟩) hS (fun r11 g11 H locs p11 hM hS => ?_)
      refine W.widen (k := 0) (n := 0) (Nat.le_of_ble_eq_true rfl) (Nat.le_of_ble_eq_true rfl) ?_
      obtain ⟨rfl, rfl⟩ := p11
      refine lv_icmp_ge (tgt := 69) hx hb dX11_openFor_14 (by decide) (fun c_14 => ?_) (fun c_14 => ?_)
      · replace c_14 : nI (aN S2) ≤ nI i := c_14
        rw [nI_leI (by omega) (by omega)] at c_14
        refine lv_iload_n hx hb dX11_openFor_69 rfl (lv_at hl 3 rfl) ?_
        refine lv_if_ne (tgt := 85) hx hb dX11_openFor_70 (by decide) (fun c_70 => ?_) (fun c_70 => ?_)
        · rw [hq, zb_n0, show i = aN S2 by omega] at c_70
          refine lv_iconst (v := 1) hx hb dX11_openFor_85 (by decide) ?_
          refine lv_goto (tgt := 90) hx hb dX11_openFor_86 (by decide) ?_
          exact mq_zret (v := 1) hx hb hr (rfl) hlocks hM hS (⟨rfl, by unfold opn; rw [c_70, Bool.or_true]; rfl⟩) dX11_openFor_90
        · rw [hq, zb_0, show i = aN S2 by omega] at c_70
          refine lv_aload_n hx hb dX11_openFor_73 rfl (lv_at hl 0 rfl) ?_
          refine lv_iload_n hx hb dX11_openFor_74 rfl (lv_at hl 1 rfl) ?_
          refine lv_iload_n hx hb dX11_openFor_75 rfl (lv_at hl 2 rfl) ?_
          refine mq_callq (va_runV (As := [.int (nI j), .int (nI k)]) (rest := []) ⟨hx, hb, hml, hown, hts⟩ (c_X11_of l G A f ad S X S2 Y O T j k) (cwV 2 hts gX11_openFor_X11_of rfl rfl rfl (by decide +kernel) ⟨Nat.le_of_ble_eq_true rfl, Nat.le_of_ble_eq_true rfl⟩) (mq_preV hK hZ hS hA hM (q := (RX11, TX11, 4)) y20_148 rfl (⟨hR, hO, hj, by omega⟩) _) rfl rfl hl.1 rfl (lv_room (Nat.le_of_ble_eq_true rfl)) dX11_openFor_76 ⟨Nat.le_of_ble_eq_true rfl, Nat.le_of_ble_eq_true rfl⟩) hS (fun r76 g76 H locs p76 hM hS => ?_)
          refine W.widen (k := 0) (n := 0) (Nat.le_of_ble_eq_true rfl) (Nat.le_of_ble_eq_true rfl) ?_
          obtain ⟨rfl, rfl⟩ := p76
          have y29_147 := hR.1 _ _ _ _ (t29 (j := j) (k := k) hj (by omega))
          refine mq_get (ci := 13) (v := .int (zb (mOp (aM S2 j k)))) (C := RX8) (T := TX8) (N := 6) hx hb hts nX8 hown hK hM y29_147 rfl 3 (by decide) w1 (fun _ h9 => h9) rfl dX11_openFor_79 ?_
          refine lv_if_eq (tgt := 89) hx hb dX11_openFor_82 (by decide) (fun c_82 => ?_) (fun c_82 => ?_)
          · replace c_82 : zb (mOp (aM S2 j k)) = 0 := c_82
            rw [zb_0] at c_82
            refine lv_iconst (v := 0) hx hb dX11_openFor_89 (by decide) ?_
            exact mq_zret (v := 0) hx hb hr (rfl) hlocks hM hS (⟨rfl, by unfold opn; rw [c_82, c_70]; rfl⟩) dX11_openFor_90
          · replace c_82 : ¬ zb (mOp (aM S2 j k)) = 0 := c_82
            rw [zb_n0] at c_82
            refine lv_iconst (v := 1) hx hb dX11_openFor_85 (by decide) ?_
            refine lv_goto (tgt := 90) hx hb dX11_openFor_86 (by decide) ?_
            exact mq_zret (v := 1) hx hb hr (rfl) hlocks hM hS (⟨rfl, by unfold opn; rw [c_82]; rfl⟩) dX11_openFor_90
      · replace c_14 : ¬ nI (aN S2) ≤ nI i := c_14
        rw [nI_leI (by omega) (by omega)] at c_14
        refine lv_iload_n hx hb dX11_openFor_17 rfl (lv_at hl 3 rfl) ?_
        refine lv_if_eq (tgt := 61) hx hb dX11_openFor_18 (by decide) (fun c_18 => ?_) (fun c_18 => ?_)
        · rw [hq, zb_0] at c_18
          refine lv_iconst (v := 0) hx hb dX11_openFor_61 (by decide) ?_
          refine lv_istore_n (lv' := [(3, .int 0), (0, .ref (ad 20 0 0)), (1, .int (nI j)), (2, .int (nI k)), (4, .int (nI i))]) hx hb dX11_openFor_62 rfl hl (by decide) rfl (fun ls hl => ?_)
          refine lv_iinc (v := nI (i + 1)) (lv' := [(4, .int (nI (i + 1))), (3, .int 0), (0, .ref (ad 20 0 0)), (1, .int (nI j)), (2, .int (nI k))]) hx hb dX11_openFor_63 hl (k := 4) rfl (nI_add _ _) (by decide) rfl (fun ls hl => ?_)
          refine lv_goto (tgt := 5) hx hb dX11_openFor_66 (by decide) ?_
          exact ih5 (i + 1) 0 (by omega) (by omega) (by show _ = zb (_ && _); rw [c_18]; rfl) _ _ hM hS _ (lv_sub hl [2, 3, 4, 1, 0] rfl)
        · rw [hq, zb_n0] at c_18
          refine lv_aload_n hx hb dX11_openFor_21 rfl (lv_at hl 0 rfl) ?_
          have hcs : (yS Y).2 ≠ 0 := by omega
          have y121_142 := hR.1 _ _ _ _ (t121 hcs)
          have y22_143 := hR.1 _ _ _ _ (t22 hcs)
          have y25_144 := hR.1 _ _ _ _ (t25 (j := k) hk)
          have y26_145 := hR.1 _ _ _ _ (t26 (j := k) hk)
          refine mq_get (ci := 16) (v := .ref (ad 21 0 0)) (C := RX11) (T := TX11) (N := 4) hx hb hts nX11 hown hK hM y20_148 rfl 2 (by decide) w0 (fun _ h9 => h9) rfl dX11_openFor_22 ?_
          refine lv_iload_n hx hb dX11_openFor_25 rfl (lv_at hl 2 rfl) ?_
          refine mq_callq (va_runV (As := [.int (nI k)]) (rest := []) ⟨hx, hb, hml, hown, hts⟩ (c_Jx4a65c_get_915e3 l G A f (ad 21 0 0) (yS Y).1 (ad 22 0 0) (yS Y).2 (aN S2) k (fun i => ad 25 i 0)) (cwV 1 hts gX11_openFor_Jx4a65c_get_915e3 rfl rfl rfl (by decide +kernel) ⟨Nat.le_of_ble_eq_true rfl, Nat.le_of_ble_eq_true rfl⟩) (mq_preV hK hZ hS hA hM (q := (RJx4a65c, TJx4a65c, 3)) y121_142 rfl (⟨y121_142, y22_143, hk, hns, by omega⟩) _) rfl rfl hl.1 rfl (lv_room (Nat.le_of_ble_eq_true rfl)) dX11_openFor_26 ⟨Nat.le_of_ble_eq_true rfl, Nat.le_of_ble_eq_true rfl⟩) hS (fun r26 g26 H locs p26 hM hS => ?_)
          refine W.widen (k := 0) (n := 0) (Nat.le_of_ble_eq_true rfl) (Nat.le_of_ble_eq_true rfl) ?_
          obtain ⟨rfl, rfl⟩ := p26
          refine mq_castG hx hb hown w2 (mq_recv hK hM y25_144 rfl) dX11_openFor_29 ?_
          refine mq_get (ci := 15) (v := .ref (ad 26 k 0)) (C := RX10) (T := TX10) (N := 4) hx hb hts nX10 hown hK hM y25_144 rfl 3 (by decide) w3 (fun _ h9 => h9) rfl dX11_openFor_32 ?_
          refine lv_iload hx hb dX11_openFor_35 (lv_at hl 4 rfl) ?_
          refine mq_zald hx hb hK hM y26_145 (vp_in_nI (by omega) (by omega)) dX11_openFor_37 ?_
          rw [show (nI i : Int32).toNatClampNeg = i from nI_clamp (by omega)]
          refine lv_if_eq (tgt := 57) hx hb dX11_openFor_38 (by decide) (fun c_38 => ?_) (fun c_38 => ?_)
          · replace c_38 : zb ((aS S2 k).2.2.2.testBit i) = 0 := c_38
            rw [zb_0] at c_38
            refine lv_iconst (v := 1) hx hb dX11_openFor_57 (by decide) ?_
            refine lv_goto (tgt := 62) hx hb dX11_openFor_58 (by decide) ?_
            refine lv_istore_n (lv' := [(3, .int 1), (0, .ref (ad 20 0 0)), (1, .int (nI j)), (2, .int (nI k)), (4, .int (nI i))]) hx hb dX11_openFor_62 rfl hl (by decide) rfl (fun ls hl => ?_)
            refine lv_iinc (v := nI (i + 1)) (lv' := [(4, .int (nI (i + 1))), (3, .int 1), (0, .ref (ad 20 0 0)), (1, .int (nI j)), (2, .int (nI k))]) hx hb dX11_openFor_63 hl (k := 4) rfl (nI_add _ _) (by decide) rfl (fun ls hl => ?_)
            refine lv_goto (tgt := 5) hx hb dX11_openFor_66 (by decide) ?_
            exact ih5 (i + 1) 1 (by omega) (by omega) (by show _ = zb (_ && _); rw [c_18]; simp [opF, c_38, zb]) _ _ hM hS _ (lv_sub hl [2, 3, 4, 1, 0] rfl)
          · replace c_38 : ¬ zb ((aS S2 k).2.2.2.testBit i) = 0 := c_38
            rw [zb_n0] at c_38
            refine lv_aload_n hx hb dX11_openFor_41 rfl (lv_at hl 0 rfl) ?_
            refine lv_iload_n hx hb dX11_openFor_42 rfl (lv_at hl 1 rfl) ?_
            refine lv_iload hx hb dX11_openFor_43 (lv_at hl 4 rfl) ?_
            refine mq_callq (va_runV (As := [.int (nI j), .int (nI i)]) (rest := []) ⟨hx, hb, hml, hown, hts⟩ (c_X11_of l G A f ad S X S2 Y O T j i) (cwV 2 hts gX11_openFor_X11_of rfl rfl rfl (by decide +kernel) ⟨Nat.le_of_ble_eq_true rfl, Nat.le_of_ble_eq_true rfl⟩) (mq_preV hK hZ hS hA hM (q := (RX11, TX11, 4)) y20_148 rfl (⟨hR, hO, hj, by omega⟩) _) rfl rfl hl.1 rfl (lv_room (Nat.le_of_ble_eq_true rfl)) dX11_openFor_45 ⟨Nat.le_of_ble_eq_true rfl, Nat.le_of_ble_eq_true rfl⟩) hS (fun r45 g45 H locs p45 hM hS => ?_)
            refine W.widen (k := 0) (n := 0) (Nat.le_of_ble_eq_true rfl) (Nat.le_of_ble_eq_true rfl) ?_
            obtain ⟨rfl, rfl⟩ := p45
            have mab := hma j i hj (by omega)
            have mab1 := mab.1
            have y29_146 := hR.1 _ _ _ _ (t29 (j := j) (k := i) hj (by omega))
            refine mq_get (ci := 13) (v := .int (nI (mOd (aM S2 j i)))) (C := RX8) (T := TX8) (N := 6) hx hb hts nX8 hown hK hM y29_146 rfl 0 (by decide) w4 (fun _ h9 => h9) rfl dX11_openFor_48 ?_
            refine lv_sipush (v := 700) hx hb dX11_openFor_51 (by decide) ?_
            refine lv_icmp_lt (tgt := 61) hx hb dX11_openFor_54 (by decide) (fun c_54 => ?_) (fun c_54 => ?_)
            · replace c_54 : nI (mOd (aM S2 j i)) < nI 700 := c_54
              rw [nI_ltI (by omega) (by omega)] at c_54
              refine lv_iconst (v := 0) hx hb dX11_openFor_61 (by decide) ?_
              refine lv_istore_n (lv' := [(3, .int 0), (0, .ref (ad 20 0 0)), (1, .int (nI j)), (2, .int (nI k)), (4, .int (nI i))]) hx hb dX11_openFor_62 rfl hl (by decide) rfl (fun ls hl => ?_)
              refine lv_iinc (v := nI (i + 1)) (lv' := [(4, .int (nI (i + 1))), (3, .int 0), (0, .ref (ad 20 0 0)), (1, .int (nI j)), (2, .int (nI k))]) hx hb dX11_openFor_63 hl (k := 4) rfl (nI_add _ _) (by decide) rfl (fun ls hl => ?_)
              refine lv_goto (tgt := 5) hx hb dX11_openFor_66 (by decide) ?_
              exact ih5 (i + 1) 0 (by omega) (by omega) (by show _ = zb (_ && _); rw [c_18]; simp [opF, c_38, zb]; omega) _ _ hM hS _ (lv_sub hl [2, 3, 4, 1, 0] rfl)
            · replace c_54 : ¬ nI (mOd (aM S2 j i)) < nI 700 := c_54
              rw [nI_ltI (by omega) (by omega)] at c_54
              refine lv_iconst (v := 1) hx hb dX11_openFor_57 (by decide) ?_
              refine lv_goto (tgt := 62) hx hb dX11_openFor_58 (by decide) ?_
              refine lv_istore_n (lv' := [(3, .int 1), (0, .ref (ad 20 0 0)), (1, .int (nI j)), (2, .int (nI k)), (4, .int (nI i))]) hx hb dX11_openFor_62 rfl hl (by decide) rfl (fun ls hl => ?_)
              refine lv_iinc (v := nI (i + 1)) (lv' := [(4, .int (nI (i + 1))), (3, .int 1), (0, .ref (ad 20 0 0)), (1, .int (nI j)), (2, .int (nI k))]) hx hb dX11_openFor_63 hl (k := 4) rfl (nI_add _ _) (by decide) rfl (fun ls hl => ?_)
              refine lv_goto (tgt := 5) hx hb dX11_openFor_66 (by decide) ?_
              exact ih5 (i + 1) 1 (by omega) (by omega) (by show _ = zb (_ && _); rw [c_18]; simp [opF, c_38, zb]; omega) _ _ hM hS _ (lv_sub hl [2, 3, 4, 1, 0] rfl)
  exact K5 _ 0 1 (Nat.lt_succ_self _) (Nat.zero_le _) (rfl) _ _ hM hS _ (lv_sub hl [2, 3, 4, 1, 0] rfl)

set_option maxHeartbeats 4000000 in
set_option maxRecDepth 100000 in
theorem c_X11_othersDue (l : Launch) (G : mq_G) (A : Nat → Prop) (f : mq_F) (ad : AD) (S : AT) (X : CX) (S2 : AT) (Y : MX) (O : OX) (T : Nat) (j k d : Nat) : Met l yX11_othersDue wsX11_othersDue ({ frames := 11, cells := 0, slots := 0, locals := 206 } : Room) (mq_Pc G A f (WR G f ad S X S2 Y O ∧ mOK S2 Y T ∧ j < aL S2 ∧ k < aN S2 ∧ d < 2 ^ 20) [.ref (ad 20 0 0), .int (nI j), .int (nI k), .int (du d)]) (mq_Qi G A (fun r g => f = g ∧ r = nI (odu S2 j k d))) 0 0 A := by
  refine Met.ofW (cc := cX11_othersDue) (maxL := 6) (ret := (some .int)) (by decide) rfl ?_
  intro p e s m args below meth c s₁ B hml hv
  obtain ⟨rfl, ⟨hK, hZ, hM, hA⟩, hp⟩ := hv
  have hx := B.exec
  have hb := B.bytes
  have hr := B.returns
  have hts := atoms_spec (ws := wsX11_othersDue) B.pre
  have hown : s.vm.findClass RX11 = some m.cls := findClass_of_methodNamed B.named
  have hlocks := B.notSynchronized
  have hS : va_S A s.heap s.heap [] := va_S.rf
  have hl := lv_entry ([.ref (ad 20 0 0), .int (nI j), .int (nI k), .int (du d)]) (n := 6) (Nat.le_of_ble_eq_true rfl)
  rw [lg_entry_eq]
  generalize (lg_sl ([.ref (ad 20 0 0), .int (nI j), .int (nI k), .int (du d)]) ++ List.replicate (6 - (lg_sl ([.ref (ad 20 0 0), .int (nI j), .int (nI k), .int (du d)])).length) Slot.unset).toArray = ls at hl ⊢
  have hl : lv_has ls 6 [(0, .ref (ad 20 0 0)), (1, .int (nI j)), (2, .int (nI k)), (3, .int (du d))] := hl
  have w0 := hts (.fieldLink RX11 10 "TutorlightModel" "skills" "Ljava/util/ArrayList;") (List.mem_of_getElem? (i := 1) rfl)
  have w1 := hts (.fieldLink RX11 107 "TutorlightModel$Known" "due" "I") (List.mem_of_getElem? (i := 2) rfl)
  have nX11 : ∀ w ∈ wsX110, w ∈ wsX11_othersDue := fun _ h => List.mem_cons_of_mem _ (List.mem_append_left _ (List.mem_append_left _ (List.mem_append_left _ (List.mem_append_right _ h))))
  have nX8 : ∀ w ∈ wsX80, w ∈ wsX11_othersDue := fun _ h => List.mem_cons_of_mem _ (List.mem_append_left _ (List.mem_append_left _ (List.mem_append_right _ h)))
  obtain ⟨hR, hO, hj, hk, hd⟩ := hp
  obtain ⟨⟨X9, ⟨hn, hl4, hd2, hT⟩, hsk, hma, hdc, hle, -⟩, ⟨hns, hnc⟩, ⟨hls, hlc⟩, hac, hmc⟩ := id hO
  have y20_151 := hR.1 _ _ _ _ (t20)
  have y21_152 := hR.1 _ _ _ _ (t21)
  refine lv_iconst (v := 0) hx hb dX11_othersDue_0 (by decide) ?_
  refine lv_istore (lv' := [(4, .int 0), (0, .ref (ad 20 0 0)), (1, .int (nI j)), (2, .int (nI k)), (3, .int (du d))]) hx hb dX11_othersDue_1 hl (by decide) rfl (fun ls hl => ?_)
  refine lv_iconst (v := 0) hx hb dX11_othersDue_3 (by decide) ?_
  refine lv_istore (lv' := [(5, .int 0), (4, .int 0), (0, .ref (ad 20 0 0)), (1, .int (nI j)), (2, .int (nI k)), (3, .int (du d))]) hx hb dX11_othersDue_4 hl (by decide) rfl (fun ls hl => ?_)
  have K6 : ∀ (n9 : Nat) (i cn : Nat), (aN S2 - i) < n9 → (i ≤ aN S2) → (cn = cntB (odF S2 j k d) i) → (cn ≤ i) → ∀ (H : Heap) (locs : List Loc), mq_W G.1 A f H → va_S A s.heap H locs → ∀ (ls : Array Slot), lv_has ls 6 [(0, .ref (ad 20 0 0)), (1, .int (nI j)), (2, .int (nI k)), (3, .int (du d)), (4, .int (nI cn)), (5, .int (nI i))] → W p l e (headSpec wsX11_othersDue ({ frames := 11, cells := 0, slots := 0, locals := 206 } : Room)).room s m ([.ref (ad 20 0 0), .int (nI j), .int (nI k), .int (du d)] : List Value).toArray below meth c H locs 0 0 (MQ below (mq_Qi G A (fun r g => f = g ∧ r = nI (odu S2 j k d))) ([.ref (ad 20 0 0), .int (nI j), .int (nI k), .int (du d)] : List Value).toArray s 0 0 A) (F0 m 6 ls []) := by
    intro n9
    induction n9 with
    | zero => intro i cn hn9; exact absurd hn9 (Nat.not_lt_zero _)
    | succ n9 ih6 =>
      intro i cn hn9 hi hq hc H locs hM hS ls hl
      refine lv_iload hx hb dX11_othersDue_6 (lv_at hl 5 rfl) ?_
      refine lv_aload_n hx hb dX11_othersDue_8 rfl (lv_at hl 0 rfl) ?_
      refine mq_get (ci := 16) (v := .ref (ad 21 0 0)) (C := RX11) (T := TX11) (N := 4) hx hb hts nX11 hown hK hM y20_151 rfl 2 (by decide) w0 (fun _ h9 => h9) rfl dX11_othersDue_9 ?_
      refine mq_calli (va_runV (As := []) (rest := [.int (nI i)]) ⟨hx, hb, hml, hown, hts⟩ (c_Jx4a65c_size_8abf5 l G A f (ad 21 0 0) (yS Y).1 (lsD G (yS Y).2 (ad 22 0 0)) (aN S2)) (cwV 0 hts gX11_othersDue_Jx4a65c_size_8abf5 rfl rfl rfl (by decide +kernel) ⟨Nat.le_of_ble_eq_true rfl, Nat.le_of_ble_eq_true rfl⟩) (mq_preV hK hZ hS hA hM (q := (RJx4a65c, TJx4a65c, 3)) y21_152 rfl (y21_152) _) rfl rfl hl.1 rfl (lv_room (Nat.le_of_ble_eq_true rfl)) dX11_othersDue_12 ⟨Nat.le_of_ble_eq_true rfl, Nat.le_of_ble_eq_true rfl⟩) hS (fun r12 g12 H locs p12 hM hS => ?_)
      refine W.widen (k := 0) (n := 0) (Nat.le_of_ble_eq_true rfl) (Nat.le_of_ble_eq_true rfl) ?_
      obtain ⟨rfl, rfl⟩ := p12
      refine lv_icmp_ge (tgt := 54) hx hb dX11_othersDue_15 (by decide) (fun c_15 => ?_) (fun c_15 => ?_)
      · replace c_15 : nI (aN S2) ≤ nI i := c_15
        rw [nI_leI (by omega) (by omega)] at c_15
        refine lv_iload hx hb dX11_othersDue_54 (lv_at hl 4 rfl) ?_
        exact mq_iret (v := nI cn) hx hb hr hlocks hM hS (⟨rfl, by rw [hq, odu, show i = aN S2 by omega]⟩) dX11_othersDue_56
      · replace c_15 : ¬ nI (aN S2) ≤ nI i := c_15
        rw [nI_leI (by omega) (by omega)] at c_15
        refine lv_iload hx hb dX11_othersDue_18 (lv_at hl 4 rfl) ?_
        refine lv_iload hx hb dX11_othersDue_20 (lv_at hl 5 rfl) ?_
        refine lv_iload_n hx hb dX11_othersDue_22 rfl (lv_at hl 2 rfl) ?_
        refine lv_icmp_eq (tgt := 44) hx hb dX11_othersDue_23 (by decide) (fun c_23 => ?_) (fun c_23 => ?_)
        · replace c_23 : nI i = nI k := c_23
          rw [nI_eq (by omega) (by omega)] at c_23
          refine lv_iconst (v := 0) hx hb dX11_othersDue_44 (by decide) ?_
          refine lv_iadd hx hb dX11_othersDue_45 ?_
          rw [show (nI cn) + 0 = nI (cn + 0) from nI_add _ _]
          refine lv_istore (lv' := [(4, .int (nI (cn + 0))), (0, .ref (ad 20 0 0)), (1, .int (nI j)), (2, .int (nI k)), (3, .int (du d)), (5, .int (nI i))]) hx hb dX11_othersDue_46 hl (by decide) rfl (fun ls hl => ?_)
          refine lv_iinc (v := nI (i + 1)) (lv' := [(5, .int (nI (i + 1))), (4, .int (nI (cn + 0))), (0, .ref (ad 20 0 0)), (1, .int (nI j)), (2, .int (nI k)), (3, .int (du d))]) hx hb dX11_othersDue_48 hl (k := 5) rfl (nI_add _ _) (by decide) rfl (fun ls hl => ?_)
          refine lv_goto (tgt := 6) hx hb dX11_othersDue_51 (by decide) ?_
          exact ih6 (i + 1) (cn + 0) (by omega) (by omega) (by rw [cntB_f (by simp [odF, c_23])]; omega) (by omega) _ _ hM hS _ (lv_sub hl [2, 3, 4, 5, 1, 0] rfl)
        · replace c_23 : ¬ nI i = nI k := c_23
          rw [nI_eq (by omega) (by omega)] at c_23
          refine lv_aload_n hx hb dX11_othersDue_26 rfl (lv_at hl 0 rfl) ?_
          refine lv_iload_n hx hb dX11_othersDue_27 rfl (lv_at hl 1 rfl) ?_
          refine lv_iload hx hb dX11_othersDue_28 (lv_at hl 5 rfl) ?_
          refine mq_callq (va_runV (As := [.int (nI j), .int (nI i)]) (rest := [.int (nI cn)]) ⟨hx, hb, hml, hown, hts⟩ (c_X11_of l G A f ad S X S2 Y O T j i) (cwV 2 hts gX11_othersDue_X11_of rfl rfl rfl (by decide +kernel) ⟨Nat.le_of_ble_eq_true rfl, Nat.le_of_ble_eq_true rfl⟩) (mq_preV hK hZ hS hA hM (q := (RX11, TX11, 4)) y20_151 rfl (⟨hR, hO, hj, by omega⟩) _) rfl rfl hl.1 rfl (lv_room (Nat.le_of_ble_eq_true rfl)) dX11_othersDue_30 ⟨Nat.le_of_ble_eq_true rfl, Nat.le_of_ble_eq_true rfl⟩) hS (fun r30 g30 H locs p30 hM hS => ?_)
          refine W.widen (k := 0) (n := 0) (Nat.le_of_ble_eq_true rfl) (Nat.le_of_ble_eq_true rfl) ?_
          obtain ⟨rfl, rfl⟩ := p30
          have mab := (hma j i hj (by omega)).2.2.2.2.1
          have y29_150 := hR.1 _ _ _ _ (t29 (j := j) (k := i) hj (by omega))
          refine mq_get (ci := 13) (v := .int (du (mDu (aM S2 j i)))) (C := RX8) (T := TX8) (N := 6) hx hb hts nX8 hown hK hM y29_150 rfl 5 (by decide) w1 (fun _ h9 => h9) rfl dX11_othersDue_33 ?_
          refine lv_iload_n hx hb dX11_othersDue_36 rfl (lv_at hl 3 rfl) ?_
          refine lv_icmp_ne (tgt := 44) hx hb dX11_othersDue_37 (by decide) (fun c_37 => ?_) (fun c_37 => ?_)
          · replace c_37 : ¬ du (mDu (aM S2 j i)) = du d := c_37
            rw [du_eq (by omega) (by omega)] at c_37
            refine lv_iconst (v := 0) hx hb dX11_othersDue_44 (by decide) ?_
            refine lv_iadd hx hb dX11_othersDue_45 ?_
            rw [show (nI cn) + 0 = nI (cn + 0) from nI_add _ _]
            refine lv_istore (lv' := [(4, .int (nI (cn + 0))), (0, .ref (ad 20 0 0)), (1, .int (nI j)), (2, .int (nI k)), (3, .int (du d)), (5, .int (nI i))]) hx hb dX11_othersDue_46 hl (by decide) rfl (fun ls hl => ?_)
            refine lv_iinc (v := nI (i + 1)) (lv' := [(5, .int (nI (i + 1))), (4, .int (nI (cn + 0))), (0, .ref (ad 20 0 0)), (1, .int (nI j)), (2, .int (nI k)), (3, .int (du d))]) hx hb dX11_othersDue_48 hl (k := 5) rfl (nI_add _ _) (by decide) rfl (fun ls hl => ?_)
            refine lv_goto (tgt := 6) hx hb dX11_othersDue_51 (by decide) ?_
            exact ih6 (i + 1) (cn + 0) (by omega) (by omega) (by rw [cntB_f (by simp [odF, c_37])]; omega) (by omega) _ _ hM hS _ (lv_sub hl [2, 3, 4, 5, 1, 0] rfl)
          · replace c_37 : du (mDu (aM S2 j i)) = du d := c_37
            rw [du_eq (by omega) (by omega)] at c_37
            refine lv_iconst (v := 1) hx hb dX11_othersDue_40 (by decide) ?_
            refine lv_goto (tgt := 45) hx hb dX11_othersDue_41 (by decide) ?_
            refine lv_iadd hx hb dX11_othersDue_45 ?_
            rw [show (nI cn) + 1 = nI (cn + 1) from nI_add _ _]
            refine lv_istore (lv' := [(4, .int (nI (cn + 1))), (0, .ref (ad 20 0 0)), (1, .int (nI j)), (2, .int (nI k)), (3, .int (du d)), (5, .int (nI i))]) hx hb dX11_othersDue_46 hl (by decide) rfl (fun ls hl => ?_)
            refine lv_iinc (v := nI (i + 1)) (lv' := [(5, .int (nI (i + 1))), (4, .int (nI (cn + 1))), (0, .ref (ad 20 0 0)), (1, .int (nI j)), (2, .int (nI k)), (3, .int (du d))]) hx hb dX11_othersDue_48 hl (k := 5) rfl (nI_add _ _) (by decide) rfl (fun ls hl => ?_)
            refine lv_goto (tgt := 6) hx hb dX11_othersDue_51 (by decide) ?_
            exact ih6 (i + 1) (cn + 1) (by omega) (by omega) (by rw [cntB_t (by simp [odF, c_23, c_37])]; omega) (by omega) _ _ hM hS _ (lv_sub hl [2, 3, 4, 5, 1, 0] rfl)
  exact K6 _ 0 0 (Nat.lt_succ_self _) (Nat.zero_le _) (rfl) (Nat.le_refl _) _ _ hM hS _ (lv_sub hl [2, 3, 4, 5, 1, 0] rfl)

set_option maxHeartbeats 4000000 in
set_option maxRecDepth 100000 in
theorem c_X11_odds (l : Launch) (G : mq_G) (A : Nat → Prop) (f : mq_F) (ad : AD) (S : AT) (X : CX) (S2 : AT) (Y : MX) (O : OX) (T : Nat) (ua ub : Int32) : Met l yX11_odds wsX11_odds ({ frames := 11, cells := 0, slots := 0, locals := 206 } : Room) (mq_Pc G A f (WR G f ad S X S2 Y O ∧ mOK S2 Y T) [.ref (ad 20 0 0), .int ua, .int ub]) (mq_Qi G A (fun r g => ∃ c9, spOdds S2 ua ub = (c9, r) ∧ WR G g ad S X S2 (yThr Y (nI c9)) O)) 0 0 A := by
  refine Met.ofW (cc := cX11_odds) (maxL := 3) (ret := (some .int)) (by decide) rfl ?_
  intro p e s m args below meth c s₁ B hml hv
  obtain ⟨rfl, ⟨hK, hZ, hM, hA⟩, hp⟩ := hv
  have hx := B.exec
  have hb := B.bytes
  have hr := B.returns
  have hts := atoms_spec (ws := wsX11_odds) B.pre
  have hown : s.vm.findClass RX11 = some m.cls := findClass_of_methodNamed B.named
  have hlocks := B.notSynchronized
  have hS : va_S A s.heap s.heap [] := va_S.rf
  have hl := lv_entry ([.ref (ad 20 0 0), .int ua, .int ub]) (n := 3) (Nat.le_of_ble_eq_true rfl)
  rw [lg_entry_eq]
  generalize (lg_sl ([.ref (ad 20 0 0), .int ua, .int ub]) ++ List.replicate (3 - (lg_sl ([.ref (ad 20 0 0), .int ua, .int ub])).length) Slot.unset).toArray = ls at hl ⊢
  have hl : lv_has ls 3 [(0, .ref (ad 20 0 0)), (1, .int ua), (2, .int ub)] := hl
  have w0 := hts (.fieldLink RX11 19 "TutorlightModel" "thrown" "I") (List.mem_of_getElem? (i := 1) rfl)
  have w1 := hts (.fieldLink RX11 81 "TutorlightModel$Known" "odds" "I") (List.mem_of_getElem? (i := 2) rfl)
  have nX11 : ∀ w ∈ wsX110, w ∈ wsX11_odds := fun _ h => List.mem_cons_of_mem _ (List.mem_append_left _ (List.mem_append_left _ (List.mem_append_left _ (List.mem_append_right _ h))))
  have nX8 : ∀ w ∈ wsX80, w ∈ wsX11_odds := fun _ h => List.mem_cons_of_mem _ (List.mem_append_left _ (List.mem_append_left _ (List.mem_append_right _ h)))
  obtain ⟨hR, hO⟩ := hp
  obtain ⟨⟨X9, ⟨hn, hl4, hd2, hT⟩, hsk, hma, hdc, hle, -⟩, ⟨hns, hnc⟩, ⟨hls, hlc⟩, hac, hmc⟩ := id hO
  have y20_154 := hR.1 _ _ _ _ (t20)
  refine lv_aload_n hx hb dX11_odds_0 rfl (lv_at hl 0 rfl) ?_
  refine lv_iconst (v := 0) hx hb dX11_odds_1 (by decide) ?_
  refine mq_put (ci := 16) (v := .int 0) (ty := .int) (C := RX11) (T := TX11) (N := 4) (fs' := [.int 0, .int (nI (aD S2)), .ref (ad 21 0 0), .ref (ad 23 0 0)]) hx hb hts nX11 tyX11 tyX11_ok nmX11 hown hK hM hS y20_154 rfl 0 (by decide) w0 (fun _ h9 => h9) rfl (by decide +kernel) rfl rfl (Nat.le_of_ble_eq_true rfl) dX11_odds_2 rfl (fun f_1 H locs e_2 hM hS => ?_)
  have h_3 : f_1 (ad 20 0 0) = some (.inr (16, [.int 0, .int (nI (aD S2)), .ref (ad 21 0 0), .ref (ad 23 0 0)])) := mq_s e_2
  have hR1 := WR_yt hR e_2
  refine lv_aload_n hx hb dX11_odds_5 rfl (lv_at hl 0 rfl) ?_
  refine lv_iload_n hx hb dX11_odds_6 rfl (lv_at hl 1 rfl) ?_
  refine lv_iload_n hx hb dX11_odds_7 rfl (lv_at hl 2 rfl) ?_
  refine mq_calli (va_runV (As := [.int ua, .int ub]) (rest := []) ⟨hx, hb, hml, hown, hts⟩ (c_X11_no l G A f_1 ad S X S2 (yThr Y 0) O T ua ub) (cwV 2 hts gX11_odds_X11_no rfl rfl rfl (by decide +kernel) ⟨Nat.le_of_ble_eq_true rfl, Nat.le_of_ble_eq_true rfl⟩) (mq_preV hK hZ hS hA hM (q := (RX11, TX11, 4)) h_3 rfl (⟨hR1, hO.thr 0, rfl⟩) _) rfl rfl hl.1 rfl (lv_room (Nat.le_of_ble_eq_true rfl)) dX11_odds_8 ⟨Nat.le_of_ble_eq_true rfl, Nat.le_of_ble_eq_true rfl⟩) hS (fun r8 g8 H locs p8 hM hS => ?_)
  refine W.widen (k := 0) (n := 0) (Nat.le_of_ble_eq_true rfl) (Nat.le_of_ble_eq_true rfl) ?_
  refine lv_if_eq (tgt := 18) hx hb dX11_odds_11 (by decide) (fun c_11 => ?_) (fun c_11 => ?_)
  · obtain ⟨rfl, j, k, hj, hk, rfl, rfl⟩ := no_0 p8 c_11
    refine lv_aload_n hx hb dX11_odds_18 rfl (lv_at hl 0 rfl) ?_
    refine lv_iload_n hx hb dX11_odds_19 rfl (lv_at hl 1 rfl) ?_
    refine lv_iload_n hx hb dX11_odds_20 rfl (lv_at hl 2 rfl) ?_
    refine mq_callq (va_runV (As := [.int (nI j), .int (nI k)]) (rest := []) ⟨hx, hb, hml, hown, hts⟩ (c_X11_of l G A f_1 ad S X S2 (yThr Y 0) O T j k) (cwV 2 hts gX11_odds_X11_of rfl rfl rfl (by decide +kernel) ⟨Nat.le_of_ble_eq_true rfl, Nat.le_of_ble_eq_true rfl⟩) (mq_preV hK hZ hS hA hM (q := (RX11, TX11, 4)) h_3 rfl (⟨hR1, (hO.thr 0), hj, by omega⟩) _) rfl rfl hl.1 rfl (lv_room (Nat.le_of_ble_eq_true rfl)) dX11_odds_21 ⟨Nat.le_of_ble_eq_true rfl, Nat.le_of_ble_eq_true rfl⟩) hS (fun r21 g21 H locs p21 hM hS => ?_)
    refine W.widen (k := 0) (n := 0) (Nat.le_of_ble_eq_true rfl) (Nat.le_of_ble_eq_true rfl) ?_
    obtain ⟨rfl, rfl⟩ := p21
    have y29_153 := hR1.1 _ _ _ _ (t29 (j := j) (k := k) hj (by omega))
    refine mq_get (ci := 13) (v := .int (nI (mOd (aM S2 j k)))) (C := RX8) (T := TX8) (N := 6) hx hb hts nX8 hown hK hM y29_153 rfl 0 (by decide) w1 (fun _ h9 => h9) rfl dX11_odds_24 ?_
    exact mq_iret (v := nI (mOd (aM S2 j k))) hx hb hr hlocks hM hS (⟨0, spLS_y hj hk hl4 hn, hR1⟩) dX11_odds_27
  · obtain ⟨hno, hR9⟩ := no_1 p8 c_11
    refine lv_iconst (v := 0) hx hb dX11_odds_14 (by decide) ?_
    refine lv_goto (tgt := 27) hx hb dX11_odds_15 (by decide) ?_
    exact mq_iret (v := 0) hx hb hr hlocks hM hS (⟨1, spLS_n hno, hR9⟩) dX11_odds_27

set_option maxHeartbeats 4000000 in
set_option maxRecDepth 100000 in
theorem c_X11_isOpen (l : Launch) (G : mq_G) (A : Nat → Prop) (f : mq_F) (ad : AD) (S : AT) (X : CX) (S2 : AT) (Y : MX) (O : OX) (T : Nat) (ua ub : Int32) : Met l yX11_isOpen wsX11_isOpen ({ frames := 12, cells := 0, slots := 0, locals := 230 } : Room) (mq_Pc G A f (WR G f ad S X S2 Y O ∧ mOK S2 Y T) [.ref (ad 20 0 0), .int ua, .int ub]) (mq_Qi G A (fun r g => ∃ c9, spIsOpen S2 ua ub = (c9, r) ∧ WR G g ad S X S2 (yThr Y (nI c9)) O)) 0 0 A := by
  refine Met.ofW (cc := cX11_isOpen) (maxL := 3) (ret := (some .boolean)) (by decide) rfl ?_
  intro p e s m args below meth c s₁ B hml hv
  obtain ⟨rfl, ⟨hK, hZ, hM, hA⟩, hp⟩ := hv
  have hx := B.exec
  have hb := B.bytes
  have hr := B.returns
  have hts := atoms_spec (ws := wsX11_isOpen) B.pre
  have hown : s.vm.findClass RX11 = some m.cls := findClass_of_methodNamed B.named
  have hlocks := B.notSynchronized
  have hS : va_S A s.heap s.heap [] := va_S.rf
  have hl := lv_entry ([.ref (ad 20 0 0), .int ua, .int ub]) (n := 3) (Nat.le_of_ble_eq_true rfl)
  rw [lg_entry_eq]
  generalize (lg_sl ([.ref (ad 20 0 0), .int ua, .int ub]) ++ List.replicate (3 - (lg_sl ([.ref (ad 20 0 0), .int ua, .int ub])).length) Slot.unset).toArray = ls at hl ⊢
  have hl : lv_has ls 3 [(0, .ref (ad 20 0 0)), (1, .int ua), (2, .int ub)] := hl
  have w0 := hts (.fieldLink RX11 19 "TutorlightModel" "thrown" "I") (List.mem_of_getElem? (i := 1) rfl)
  have nX11 : ∀ w ∈ wsX110, w ∈ wsX11_isOpen := fun _ h => List.mem_cons_of_mem _ (List.mem_append_left _ (List.mem_append_left _ (List.mem_append_left _ (List.mem_append_left _ (List.mem_append_left _ (List.mem_append_right _ h))))))
  obtain ⟨hR, hO⟩ := hp
  obtain ⟨⟨X9, ⟨hn, hl4, hd2, hT⟩, hsk, hma, hdc, hle, -⟩, ⟨hns, hnc⟩, ⟨hls, hlc⟩, hac, hmc⟩ := id hO
  have y20_155 := hR.1 _ _ _ _ (t20)
  refine lv_aload_n hx hb dX11_isOpen_0 rfl (lv_at hl 0 rfl) ?_
  refine lv_iconst (v := 0) hx hb dX11_isOpen_1 (by decide) ?_
  refine mq_put (ci := 16) (v := .int 0) (ty := .int) (C := RX11) (T := TX11) (N := 4) (fs' := [.int 0, .int (nI (aD S2)), .ref (ad 21 0 0), .ref (ad 23 0 0)]) hx hb hts nX11 tyX11 tyX11_ok nmX11 hown hK hM hS y20_155 rfl 0 (by decide) w0 (fun _ h9 => h9) rfl (by decide +kernel) rfl rfl (Nat.le_of_ble_eq_true rfl) dX11_isOpen_2 rfl (fun f_1 H locs e_2 hM hS => ?_)
  have h_3 : f_1 (ad 20 0 0) = some (.inr (16, [.int 0, .int (nI (aD S2)), .ref (ad 21 0 0), .ref (ad 23 0 0)])) := mq_s e_2
  have hR1 := WR_yt hR e_2
  refine lv_aload_n hx hb dX11_isOpen_5 rfl (lv_at hl 0 rfl) ?_
  refine lv_iload_n hx hb dX11_isOpen_6 rfl (lv_at hl 1 rfl) ?_
  refine lv_iload_n hx hb dX11_isOpen_7 rfl (lv_at hl 2 rfl) ?_
  refine mq_calli (va_runV (As := [.int ua, .int ub]) (rest := []) ⟨hx, hb, hml, hown, hts⟩ (c_X11_no l G A f_1 ad S X S2 (yThr Y 0) O T ua ub) (cwV 2 hts gX11_isOpen_X11_no rfl rfl rfl (by decide +kernel) ⟨Nat.le_of_ble_eq_true rfl, Nat.le_of_ble_eq_true rfl⟩) (mq_preV hK hZ hS hA hM (q := (RX11, TX11, 4)) h_3 rfl (⟨hR1, hO.thr 0, rfl⟩) _) rfl rfl hl.1 rfl (lv_room (Nat.le_of_ble_eq_true rfl)) dX11_isOpen_8 ⟨Nat.le_of_ble_eq_true rfl, Nat.le_of_ble_eq_true rfl⟩) hS (fun r8 g8 H locs p8 hM hS => ?_)
  refine W.widen (k := 0) (n := 0) (Nat.le_of_ble_eq_true rfl) (Nat.le_of_ble_eq_true rfl) ?_
  refine lv_if_ne (tgt := 27) hx hb dX11_isOpen_11 (by decide) (fun c_11 => ?_) (fun c_11 => ?_)
  · obtain ⟨hno, hR9⟩ := no_1 p8 c_11
    refine lv_iconst (v := 0) hx hb dX11_isOpen_27 (by decide) ?_
    exact mq_zret (v := 0) hx hb hr (rfl) hlocks hM hS (⟨1, spLS_n hno, hR9⟩) dX11_isOpen_28
  · obtain ⟨rfl, j, k, hj, hk, rfl, rfl⟩ := no_0 p8 c_11
    refine lv_aload_n hx hb dX11_isOpen_14 rfl (lv_at hl 0 rfl) ?_
    refine lv_iload_n hx hb dX11_isOpen_15 rfl (lv_at hl 1 rfl) ?_
    refine lv_iload_n hx hb dX11_isOpen_16 rfl (lv_at hl 2 rfl) ?_
    refine mq_calli (va_runV (As := [.int (nI j), .int (nI k)]) (rest := []) ⟨hx, hb, hml, hown, hts⟩ (c_X11_openFor l G A f_1 ad S X S2 (yThr Y 0) O T j k) (cwV 2 hts gX11_isOpen_X11_openFor rfl rfl rfl (by decide +kernel) ⟨Nat.le_of_ble_eq_true rfl, Nat.le_of_ble_eq_true rfl⟩) (mq_preV hK hZ hS hA hM (q := (RX11, TX11, 4)) h_3 rfl (⟨hR1, hO.thr 0, hj, hk⟩) _) rfl rfl hl.1 rfl (lv_room (Nat.le_of_ble_eq_true rfl)) dX11_isOpen_17 ⟨Nat.le_of_ble_eq_true rfl, Nat.le_of_ble_eq_true rfl⟩) hS (fun r17 g17 H locs p17 hM hS => ?_)
    refine W.widen (k := 0) (n := 0) (Nat.le_of_ble_eq_true rfl) (Nat.le_of_ble_eq_true rfl) ?_
    obtain ⟨rfl, rfl⟩ := p17
    refine lv_if_eq (tgt := 27) hx hb dX11_isOpen_20 (by decide) (fun c_20 => ?_) (fun c_20 => ?_)
    · replace c_20 : zb (opn S2 j k) = 0 := c_20
      rw [zb_0] at c_20
      refine lv_iconst (v := 0) hx hb dX11_isOpen_27 (by decide) ?_
      exact mq_zret (v := 0) hx hb hr (rfl) hlocks hM hS (⟨0, (spLS_y hj hk hl4 hn).trans (by rw [c_20]; rfl), hR1⟩) dX11_isOpen_28
    · replace c_20 : ¬ zb (opn S2 j k) = 0 := c_20
      rw [zb_n0] at c_20
      refine lv_iconst (v := 1) hx hb dX11_isOpen_23 (by decide) ?_
      refine lv_goto (tgt := 28) hx hb dX11_isOpen_24 (by decide) ?_
      exact mq_zret (v := 1) hx hb hr (rfl) hlocks hM hS (⟨0, (spLS_y hj hk hl4 hn).trans (by rw [c_20]; rfl), hR1⟩) dX11_isOpen_28

theorem fl_0 {f g : mq_F} {x : Nat} {d : Int32} {a b : Nat} {e : Int32} (h : f x = some (.inr (16, [.int 0, .int d, .ref a, .ref b]))) (hg : g = mq_up f x (.inr (16, [.int (fT false 0 e), .int d, .ref a, .ref b]))) : f = g := by
  rw [hg]
  exact (mq_id h).symm

set_option maxHeartbeats 4000000 in
set_option maxRecDepth 100000 in
theorem c_X11_answers (l : Launch) (G : mq_G) (A : Nat → Prop) (f : mq_F) (ad : AD) (S : AT) (X : CX) (S2 : AT) (Y : MX) (O : OX) (T : Nat) (ua ub : Int32) : Met l yX11_answers wsX11_answers ({ frames := 11, cells := 0, slots := 0, locals := 206 } : Room) (mq_Pc G A f (WR G f ad S X S2 Y O ∧ mOK S2 Y T) [.ref (ad 20 0 0), .int ua, .int ub]) (mq_Qi G A (fun r g => ∃ c9, spAns S2 ua ub = (c9, r) ∧ WR G g ad S X S2 (yThr Y (nI c9)) O)) 0 0 A := by
  refine Met.ofW (cc := cX11_answers) (maxL := 3) (ret := (some .int)) (by decide) rfl ?_
  intro p e s m args below meth c s₁ B hml hv
  obtain ⟨rfl, ⟨hK, hZ, hM, hA⟩, hp⟩ := hv
  have hx := B.exec
  have hb := B.bytes
  have hr := B.returns
  have hts := atoms_spec (ws := wsX11_answers) B.pre
  have hown : s.vm.findClass RX11 = some m.cls := findClass_of_methodNamed B.named
  have hlocks := B.notSynchronized
  have hS : va_S A s.heap s.heap [] := va_S.rf
  have hl := lv_entry ([.ref (ad 20 0 0), .int ua, .int ub]) (n := 3) (Nat.le_of_ble_eq_true rfl)
  rw [lg_entry_eq]
  generalize (lg_sl ([.ref (ad 20 0 0), .int ua, .int ub]) ++ List.replicate (3 - (lg_sl ([.ref (ad 20 0 0), .int ua, .int ub])).length) Slot.unset).toArray = ls at hl ⊢
  have hl : lv_has ls 3 [(0, .ref (ad 20 0 0)), (1, .int ua), (2, .int ub)] := hl
  have w0 := hts (.fieldLink RX11 19 "TutorlightModel" "thrown" "I") (List.mem_of_getElem? (i := 1) rfl)
  have w1 := hts (.fieldLink RX11 101 "TutorlightModel$Known" "answers" "Ljava/util/ArrayList;") (List.mem_of_getElem? (i := 2) rfl)
  have nX11 : ∀ w ∈ wsX110, w ∈ wsX11_answers := fun _ h => List.mem_cons_of_mem _ (List.mem_append_left _ (List.mem_append_left _ (List.mem_append_left _ (List.mem_append_right _ h))))
  have nX8 : ∀ w ∈ wsX80, w ∈ wsX11_answers := fun _ h => List.mem_cons_of_mem _ (List.mem_append_left _ (List.mem_append_left _ (List.mem_append_right _ h)))
  obtain ⟨hR, hO⟩ := hp
  obtain ⟨⟨X9, ⟨hn, hl4, hd2, hT⟩, hsk, hma, hdc, hle, -⟩, ⟨hns, hnc⟩, ⟨hls, hlc⟩, hac, hmc⟩ := id hO
  have y20_158 := hR.1 _ _ _ _ (t20)
  refine lv_aload_n hx hb dX11_answers_0 rfl (lv_at hl 0 rfl) ?_
  refine lv_iconst (v := 0) hx hb dX11_answers_1 (by decide) ?_
  refine mq_put (ci := 16) (v := .int 0) (ty := .int) (C := RX11) (T := TX11) (N := 4) (fs' := [.int 0, .int (nI (aD S2)), .ref (ad 21 0 0), .ref (ad 23 0 0)]) hx hb hts nX11 tyX11 tyX11_ok nmX11 hown hK hM hS y20_158 rfl 0 (by decide) w0 (fun _ h9 => h9) rfl (by decide +kernel) rfl rfl (Nat.le_of_ble_eq_true rfl) dX11_answers_2 rfl (fun f_1 H locs e_2 hM hS => ?_)
  have h_3 : f_1 (ad 20 0 0) = some (.inr (16, [.int 0, .int (nI (aD S2)), .ref (ad 21 0 0), .ref (ad 23 0 0)])) := mq_s e_2
  have hR1 := WR_yt hR e_2
  refine lv_aload_n hx hb dX11_answers_5 rfl (lv_at hl 0 rfl) ?_
  refine lv_iload_n hx hb dX11_answers_6 rfl (lv_at hl 1 rfl) ?_
  refine lv_iload_n hx hb dX11_answers_7 rfl (lv_at hl 2 rfl) ?_
  refine mq_calli (va_runV (As := [.int ua, .int ub]) (rest := []) ⟨hx, hb, hml, hown, hts⟩ (c_X11_no l G A f_1 ad S X S2 (yThr Y 0) O T ua ub) (cwV 2 hts gX11_answers_X11_no rfl rfl rfl (by decide +kernel) ⟨Nat.le_of_ble_eq_true rfl, Nat.le_of_ble_eq_true rfl⟩) (mq_preV hK hZ hS hA hM (q := (RX11, TX11, 4)) h_3 rfl (⟨hR1, hO.thr 0, rfl⟩) _) rfl rfl hl.1 rfl (lv_room (Nat.le_of_ble_eq_true rfl)) dX11_answers_8 ⟨Nat.le_of_ble_eq_true rfl, Nat.le_of_ble_eq_true rfl⟩) hS (fun r8 g8 H locs p8 hM hS => ?_)
  refine W.widen (k := 0) (n := 0) (Nat.le_of_ble_eq_true rfl) (Nat.le_of_ble_eq_true rfl) ?_
  refine lv_if_eq (tgt := 18) hx hb dX11_answers_11 (by decide) (fun c_11 => ?_) (fun c_11 => ?_)
  · obtain ⟨rfl, j, k, hj, hk, rfl, rfl⟩ := no_0 p8 c_11
    refine lv_aload_n hx hb dX11_answers_18 rfl (lv_at hl 0 rfl) ?_
    refine lv_iload_n hx hb dX11_answers_19 rfl (lv_at hl 1 rfl) ?_
    refine lv_iload_n hx hb dX11_answers_20 rfl (lv_at hl 2 rfl) ?_
    refine mq_callq (va_runV (As := [.int (nI j), .int (nI k)]) (rest := []) ⟨hx, hb, hml, hown, hts⟩ (c_X11_of l G A f_1 ad S X S2 (yThr Y 0) O T j k) (cwV 2 hts gX11_answers_X11_of rfl rfl rfl (by decide +kernel) ⟨Nat.le_of_ble_eq_true rfl, Nat.le_of_ble_eq_true rfl⟩) (mq_preV hK hZ hS hA hM (q := (RX11, TX11, 4)) h_3 rfl (⟨hR1, (hO.thr 0), hj, by omega⟩) _) rfl rfl hl.1 rfl (lv_room (Nat.le_of_ble_eq_true rfl)) dX11_answers_21 ⟨Nat.le_of_ble_eq_true rfl, Nat.le_of_ble_eq_true rfl⟩) hS (fun r21 g21 H locs p21 hM hS => ?_)
    refine W.widen (k := 0) (n := 0) (Nat.le_of_ble_eq_true rfl) (Nat.le_of_ble_eq_true rfl) ?_
    obtain ⟨rfl, rfl⟩ := p21
    have y29_156 := hR1.1 _ _ _ _ (t29 (j := j) (k := k) hj (by omega))
    have y30_157 := hR1.1 _ _ _ _ (t30 (j := j) (k := k) hj (by omega))
    refine mq_get (ci := 13) (v := .ref (ad 30 j k)) (C := RX8) (T := TX8) (N := 6) hx hb hts nX8 hown hK hM y29_156 rfl 2 (by decide) w1 (fun _ h9 => h9) rfl dX11_answers_24 ?_
    refine mq_calli (va_runV (As := []) (rest := []) ⟨hx, hb, hml, hown, hts⟩ (c_Jx4a65c_size_8abf5 l G A f_1 (ad 30 j k) (yA Y j k).1 (lsD G (yA Y j k).2 (ad 31 j k)) (mAn (aM S2 j k)).length) (cwV 0 hts gX11_answers_Jx4a65c_size_8abf5 rfl rfl rfl (by decide +kernel) ⟨Nat.le_of_ble_eq_true rfl, Nat.le_of_ble_eq_true rfl⟩) (mq_preV hK hZ hS hA hM (q := (RJx4a65c, TJx4a65c, 3)) y30_157 rfl (y30_157) _) rfl rfl hl.1 rfl (lv_room (Nat.le_of_ble_eq_true rfl)) dX11_answers_27 ⟨Nat.le_of_ble_eq_true rfl, Nat.le_of_ble_eq_true rfl⟩) hS (fun r27 g27 H locs p27 hM hS => ?_)
    refine W.widen (k := 0) (n := 0) (Nat.le_of_ble_eq_true rfl) (Nat.le_of_ble_eq_true rfl) ?_
    obtain ⟨rfl, rfl⟩ := p27
    exact mq_iret (v := nI (mAn (aM S2 j k)).length) hx hb hr hlocks hM hS (⟨0, spLS_y hj hk hl4 hn, hR1⟩) dX11_answers_30
  · obtain ⟨hno, hR9⟩ := no_1 p8 c_11
    refine lv_iconst (v := 0) hx hb dX11_answers_14 (by decide) ?_
    refine lv_goto (tgt := 30) hx hb dX11_answers_15 (by decide) ?_
    exact mq_iret (v := 0) hx hb hr hlocks hM hS (⟨1, spLS_n hno, hR9⟩) dX11_answers_30

set_option maxHeartbeats 4000000 in
set_option maxRecDepth 100000 in
theorem c_X11_due (l : Launch) (G : mq_G) (A : Nat → Prop) (f : mq_F) (ad : AD) (S : AT) (X : CX) (S2 : AT) (Y : MX) (O : OX) (T : Nat) (ua ub : Int32) : Met l yX11_due wsX11_due ({ frames := 11, cells := 0, slots := 0, locals := 206 } : Room) (mq_Pc G A f (WR G f ad S X S2 Y O ∧ mOK S2 Y T) [.ref (ad 20 0 0), .int ua, .int ub]) (mq_Qi G A (fun r g => ∃ c9, spDue S2 ua ub = (c9, r) ∧ WR G g ad S X S2 (yThr Y (nI c9)) O)) 0 0 A := by
  refine Met.ofW (cc := cX11_due) (maxL := 3) (ret := (some .int)) (by decide) rfl ?_
  intro p e s m args below meth c s₁ B hml hv
  obtain ⟨rfl, ⟨hK, hZ, hM, hA⟩, hp⟩ := hv
  have hx := B.exec
  have hb := B.bytes
  have hr := B.returns
  have hts := atoms_spec (ws := wsX11_due) B.pre
  have hown : s.vm.findClass RX11 = some m.cls := findClass_of_methodNamed B.named
  have hlocks := B.notSynchronized
  have hS : va_S A s.heap s.heap [] := va_S.rf
  have hl := lv_entry ([.ref (ad 20 0 0), .int ua, .int ub]) (n := 3) (Nat.le_of_ble_eq_true rfl)
  rw [lg_entry_eq]
  generalize (lg_sl ([.ref (ad 20 0 0), .int ua, .int ub]) ++ List.replicate (3 - (lg_sl ([.ref (ad 20 0 0), .int ua, .int ub])).length) Slot.unset).toArray = ls at hl ⊢
  have hl : lv_has ls 3 [(0, .ref (ad 20 0 0)), (1, .int ua), (2, .int ub)] := hl
  have w0 := hts (.fieldLink RX11 19 "TutorlightModel" "thrown" "I") (List.mem_of_getElem? (i := 1) rfl)
  have w1 := hts (.fieldLink RX11 107 "TutorlightModel$Known" "due" "I") (List.mem_of_getElem? (i := 2) rfl)
  have nX11 : ∀ w ∈ wsX110, w ∈ wsX11_due := fun _ h => List.mem_cons_of_mem _ (List.mem_append_left _ (List.mem_append_left _ (List.mem_append_left _ (List.mem_append_right _ h))))
  have nX8 : ∀ w ∈ wsX80, w ∈ wsX11_due := fun _ h => List.mem_cons_of_mem _ (List.mem_append_left _ (List.mem_append_left _ (List.mem_append_right _ h)))
  obtain ⟨hR, hO⟩ := hp
  obtain ⟨⟨X9, ⟨hn, hl4, hd2, hT⟩, hsk, hma, hdc, hle, -⟩, ⟨hns, hnc⟩, ⟨hls, hlc⟩, hac, hmc⟩ := id hO
  have y20_160 := hR.1 _ _ _ _ (t20)
  refine lv_aload_n hx hb dX11_due_0 rfl (lv_at hl 0 rfl) ?_
  refine lv_iconst (v := 0) hx hb dX11_due_1 (by decide) ?_
  refine mq_put (ci := 16) (v := .int 0) (ty := .int) (C := RX11) (T := TX11) (N := 4) (fs' := [.int 0, .int (nI (aD S2)), .ref (ad 21 0 0), .ref (ad 23 0 0)]) hx hb hts nX11 tyX11 tyX11_ok nmX11 hown hK hM hS y20_160 rfl 0 (by decide) w0 (fun _ h9 => h9) rfl (by decide +kernel) rfl rfl (Nat.le_of_ble_eq_true rfl) dX11_due_2 rfl (fun f_1 H locs e_2 hM hS => ?_)
  have h_3 : f_1 (ad 20 0 0) = some (.inr (16, [.int 0, .int (nI (aD S2)), .ref (ad 21 0 0), .ref (ad 23 0 0)])) := mq_s e_2
  have hR1 := WR_yt hR e_2
  refine lv_aload_n hx hb dX11_due_5 rfl (lv_at hl 0 rfl) ?_
  refine lv_iload_n hx hb dX11_due_6 rfl (lv_at hl 1 rfl) ?_
  refine lv_iload_n hx hb dX11_due_7 rfl (lv_at hl 2 rfl) ?_
  refine mq_calli (va_runV (As := [.int ua, .int ub]) (rest := []) ⟨hx, hb, hml, hown, hts⟩ (c_X11_no l G A f_1 ad S X S2 (yThr Y 0) O T ua ub) (cwV 2 hts gX11_due_X11_no rfl rfl rfl (by decide +kernel) ⟨Nat.le_of_ble_eq_true rfl, Nat.le_of_ble_eq_true rfl⟩) (mq_preV hK hZ hS hA hM (q := (RX11, TX11, 4)) h_3 rfl (⟨hR1, hO.thr 0, rfl⟩) _) rfl rfl hl.1 rfl (lv_room (Nat.le_of_ble_eq_true rfl)) dX11_due_8 ⟨Nat.le_of_ble_eq_true rfl, Nat.le_of_ble_eq_true rfl⟩) hS (fun r8 g8 H locs p8 hM hS => ?_)
  refine W.widen (k := 0) (n := 0) (Nat.le_of_ble_eq_true rfl) (Nat.le_of_ble_eq_true rfl) ?_
  refine lv_if_ne (tgt := 40) hx hb dX11_due_11 (by decide) (fun c_11 => ?_) (fun c_11 => ?_)
  · obtain ⟨hno, hR9⟩ := no_1 p8 c_11
    refine lv_iconst (v := 0) hx hb dX11_due_40 (by decide) ?_
    refine lv_goto (tgt := 53) hx hb dX11_due_41 (by decide) ?_
    exact mq_iret (v := 0) hx hb hr hlocks hM hS (⟨1, spLS_n hno, hR9⟩) dX11_due_53
  · obtain ⟨rfl, j, k, hj, hk, rfl, rfl⟩ := no_0 p8 c_11
    refine lv_aload_n hx hb dX11_due_14 rfl (lv_at hl 0 rfl) ?_
    refine lv_aload_n hx hb dX11_due_15 rfl (lv_at hl 0 rfl) ?_
    refine lv_iload_n hx hb dX11_due_16 rfl (lv_at hl 1 rfl) ?_
    refine lv_iload_n hx hb dX11_due_17 rfl (lv_at hl 2 rfl) ?_
    refine mq_callq (va_runV (As := [.int (nI j), .int (nI k)]) (rest := [.ref (ad 20 0 0)]) ⟨hx, hb, hml, hown, hts⟩ (c_X11_of l G A f_1 ad S X S2 (yThr Y 0) O T j k) (cwV 2 hts gX11_due_X11_of rfl rfl rfl (by decide +kernel) ⟨Nat.le_of_ble_eq_true rfl, Nat.le_of_ble_eq_true rfl⟩) (mq_preV hK hZ hS hA hM (q := (RX11, TX11, 4)) h_3 rfl (⟨hR1, (hO.thr 0), hj, by omega⟩) _) rfl rfl hl.1 rfl (lv_room (Nat.le_of_ble_eq_true rfl)) dX11_due_18 ⟨Nat.le_of_ble_eq_true rfl, Nat.le_of_ble_eq_true rfl⟩) hS (fun r18 g18 H locs p18 hM hS => ?_)
    refine W.widen (k := 0) (n := 0) (Nat.le_of_ble_eq_true rfl) (Nat.le_of_ble_eq_true rfl) ?_
    obtain ⟨rfl, rfl⟩ := p18
    have mab := (hma j k hj (by omega)).2.2.2.2.1
    have y29_159 := hR1.1 _ _ _ _ (t29 (j := j) (k := k) hj (by omega))
    refine mq_get (ci := 13) (v := .int (du (mDu (aM S2 j k)))) (C := RX8) (T := TX8) (N := 6) hx hb hts nX8 hown hK hM y29_159 rfl 5 (by decide) w1 (fun _ h9 => h9) rfl dX11_due_21 ?_
    refine lv_iconst (v := (-1)) hx hb dX11_due_24 (by decide) ?_
    refine lv_icmp_ne (tgt := 32) hx hb dX11_due_25 (by decide) (fun c_25 => ?_) (fun c_25 => ?_)
    · replace c_25 : ¬ du (mDu (aM S2 j k)) = (-1) := c_25
      rw [du_m1 (by omega)] at c_25
      refine lv_iconst (v := 0) hx hb dX11_due_32 (by decide) ?_
      refine lv_iconst (v := 2) hx hb dX11_due_33 (by decide) ?_
      refine mq_calli (va_runV (As := [.int 0, .int 2]) (rest := []) ⟨hx, hb, hml, hown, hts⟩ (c_X11_fails l G A f_1 (ad 20 0 0) false 2 0 (nI (aD S2)) (ad 21 0 0) (ad 23 0 0)) (cwV 2 hts gX11_due_X11_fails rfl rfl rfl (by decide +kernel) ⟨Nat.le_of_ble_eq_true rfl, Nat.le_of_ble_eq_true rfl⟩) (mq_preV hK hZ hS hA hM (q := (RX11, TX11, 4)) h_3 rfl (h_3) _) rfl rfl hl.1 rfl (lv_room (Nat.le_of_ble_eq_true rfl)) dX11_due_34 ⟨Nat.le_of_ble_eq_true rfl, Nat.le_of_ble_eq_true rfl⟩) hS (fun r34 g34 H locs p34 hM hS => ?_)
      refine W.widen (k := 0) (n := 0) (Nat.le_of_ble_eq_true rfl) (Nat.le_of_ble_eq_true rfl) ?_
      obtain ⟨hg, hr9⟩ := p34
      obtain rfl := fl_0 h_3 hg
      rw [hr9, show zb (decide (fT false 0 2 ≠ 0)) = 0 from by decide]
      refine lv_if_eq (tgt := 44) hx hb dX11_due_37 (by decide) (fun c_37 => ?_) (fun c_37 => absurd c_37 (by decide))
      refine lv_aload_n hx hb dX11_due_44 rfl (lv_at hl 0 rfl) ?_
      refine lv_iload_n hx hb dX11_due_45 rfl (lv_at hl 1 rfl) ?_
      refine lv_iload_n hx hb dX11_due_46 rfl (lv_at hl 2 rfl) ?_
      refine mq_callq (va_runV (As := [.int (nI j), .int (nI k)]) (rest := []) ⟨hx, hb, hml, hown, hts⟩ (c_X11_of l G A f_1 ad S X S2 (yThr Y 0) O T j k) (cwV 2 hts gX11_due_X11_of rfl rfl rfl (by decide +kernel) ⟨Nat.le_of_ble_eq_true rfl, Nat.le_of_ble_eq_true rfl⟩) (mq_preV hK hZ hS hA hM (q := (RX11, TX11, 4)) h_3 rfl (⟨hR1, (hO.thr 0), hj, by omega⟩) _) rfl rfl hl.1 rfl (lv_room (Nat.le_of_ble_eq_true rfl)) dX11_due_47 ⟨Nat.le_of_ble_eq_true rfl, Nat.le_of_ble_eq_true rfl⟩) hS (fun r47 g47 H locs p47 hM hS => ?_)
      refine W.widen (k := 0) (n := 0) (Nat.le_of_ble_eq_true rfl) (Nat.le_of_ble_eq_true rfl) ?_
      obtain ⟨rfl, rfl⟩ := p47
      refine mq_get (ci := 13) (v := .int (du (mDu (aM S2 j k)))) (C := RX8) (T := TX8) (N := 6) hx hb hts nX8 hown hK hM y29_159 rfl 5 (by decide) w1 (fun _ h9 => h9) rfl dX11_due_50 ?_
      exact mq_iret (v := du (mDu (aM S2 j k))) hx hb hr hlocks hM hS (⟨0, (spLS_y hj hk hl4 hn).trans (if_neg c_25), hR1⟩) dX11_due_53
    · replace c_25 : du (mDu (aM S2 j k)) = (-1) := c_25
      rw [du_m1 (by omega)] at c_25
      refine lv_iconst (v := 1) hx hb dX11_due_28 (by decide) ?_
      refine lv_goto (tgt := 33) hx hb dX11_due_29 (by decide) ?_
      refine lv_iconst (v := 2) hx hb dX11_due_33 (by decide) ?_
      refine mq_calli (va_runV (As := [.int 1, .int 2]) (rest := []) ⟨hx, hb, hml, hown, hts⟩ (c_X11_fails l G A f_1 (ad 20 0 0) true 2 0 (nI (aD S2)) (ad 21 0 0) (ad 23 0 0)) (cwV 2 hts gX11_due_X11_fails rfl rfl rfl (by decide +kernel) ⟨Nat.le_of_ble_eq_true rfl, Nat.le_of_ble_eq_true rfl⟩) (mq_preV hK hZ hS hA hM (q := (RX11, TX11, 4)) h_3 rfl (h_3) _) rfl rfl hl.1 rfl (lv_room (Nat.le_of_ble_eq_true rfl)) dX11_due_34 ⟨Nat.le_of_ble_eq_true rfl, Nat.le_of_ble_eq_true rfl⟩) hS (fun r34 g34 H locs p34 hM hS => ?_)
      refine W.widen (k := 0) (n := 0) (Nat.le_of_ble_eq_true rfl) (Nat.le_of_ble_eq_true rfl) ?_
      obtain ⟨hg, hr9⟩ := p34
      rw [hr9, show zb (decide (fT true 0 2 ≠ 0)) = 1 from by decide]
      refine lv_if_eq (tgt := 44) hx hb dX11_due_37 (by decide) (fun c_37 => absurd c_37 (by decide)) (fun c_37 => ?_)
      refine lv_iconst (v := 0) hx hb dX11_due_40 (by decide) ?_
      refine lv_goto (tgt := 53) hx hb dX11_due_41 (by decide) ?_
      exact mq_iret (v := 0) hx hb hr hlocks hM hS (⟨2, (spLS_y hj hk hl4 hn).trans (if_pos c_25), by have q9 := WR_yt hR1 hg; exact q9⟩) dX11_due_53
