/-! THE REFERENCE: its objects' beginnings; addSkill -/
abbrev ySn (Y : MX) (v : Int32 × Nat) : MX := (yT Y, v, yL Y, yA Y, yM Y, yO Y)
abbrev cK0 (q : Nat) : va_E := .inr (13, [.int 200, .int 200, .ref q, .int 0, .int 0, .int (-1)])
theorem bo_0 : (fun _ => (0 : Int32)) = fun t => zb ((0 : Nat).testBit t) := by
  funext t
  rw [Nat.zero_testBit]; rfl
theorem wo_ne {i w q : Nat} {wo : Nat → Nat} (h : ∀ k, k < i → wo k ≠ q) (hw : w ≠ q) : ∀ k, k < i + 1 → (fun k => if k = i then w else wo k) k ≠ q := fun k hk => by
  by_cases hki : k = i
  · show (if k = i then w else wo k) ≠ q
    rw [if_pos hki]; exact hw
  · show (if k = i then w else wo k) ≠ q
    rw [if_neg hki]; exact h k (by omega)
def lk_made (G : mq_G) (f g : mq_F) (x kA mL : Nat) (ma wo : Nat → Nat) : Prop := lr_I cK0 (cLs 0 (sE G) 0) f g x ma wo 10 ∧ f kA = none ∧ f mL = none ∧ g x = some (.inr (14, [.ref kA, .ref mL, .null, .int 0, .int 0, .int 0, .null, .null])) ∧ g kA = some (cRf (G.2 7) 10 (rf_of 10 ma)) ∧ g mL = some (cLs 0 (sE G) 0) ∧ ∀ k, k < 10 → wo k ≠ mL

set_option maxHeartbeats 4000000 in
set_option maxRecDepth 100000 in
theorem c_X8_init (l : Launch) (G : mq_G) (A : Nat → Prop) (f : mq_F) (x : Nat) : Met l yX8_init wsX8_init ({ frames := 4, cells := 1, slots := 3, locals := 84 } : Room) (mq_Pc G A f (f x = some (.inr (13, [.int 0, .int 0, .null, .int 0, .int 0, .int 0]))) [.ref x]) (mq_Qv G A (fun g => ∃ q, f q = none ∧ q ≠ x ∧ g = mq_up (mq_up f q (cLs 0 (sE G) 0)) x (cK0 q))) 1 3 A := by
  refine Met.ofW (cc := cX8_init) (maxL := 1) (ret := none) (by decide) rfl ?_
  intro p e s m args below meth c s₁ B hml hv
  obtain ⟨rfl, ⟨hK, hZ, hM, hA⟩, hp⟩ := hv
  have hx := B.exec
  have hb := B.bytes
  have hr := B.returns
  have hts := atoms_spec (ws := wsX8_init) B.pre
  have hown : s.vm.findClass RX8 = some m.cls := findClass_of_methodNamed B.named
  have hlocks := B.notSynchronized
  have hin : meth.name = "<init>" := (name_of_methodNamed B.named B.method).1
  have hS : va_S A s.heap s.heap [] := va_S.rf
  have hl := lv_entry ([.ref x]) (n := 1) (Nat.le_of_ble_eq_true rfl)
  rw [lg_entry_eq]
  generalize (lg_sl ([.ref x]) ++ List.replicate (1 - (lg_sl ([.ref x])).length) Slot.unset).toArray = ls at hl ⊢
  have hl : lv_has ls 1 [(0, .ref x)] := hl
  have w0 := hts (.methodLink RX8 1 objectInit) (List.mem_of_getElem? (i := 1) rfl)
  have w1 := hts (.instanceMethod objectInit) (List.mem_of_getElem? (i := 2) rfl)
  have w2 := hts (.code objectInit ⟨#[0xb1]⟩ 1 none) (List.mem_of_getElem? (i := 3) rfl)
  have w3 := hts (.fieldLink RX8 7 "TutorlightModel$Known" "odds" "I") (List.mem_of_getElem? (i := 4) rfl)
  have w4 := hts (.fieldLink RX8 13 "TutorlightModel$Known" "base" "I") (List.mem_of_getElem? (i := 5) rfl)
  have w5 := hts (.classLink RX8 16 RJx4a65c) (List.mem_of_getElem? (i := 6) rfl)
  have w6 := hts (.instantiable RJx4a65c 3) (List.mem_of_getElem? (i := 7) rfl)
  have w7 := hts (.initialized RJx4a65c) (List.mem_of_getElem? (i := 8) rfl)
  have w8 := hts (.methodLink RX8 18 yJx4a65c_init_da8c8) (List.mem_of_getElem? (i := 11) rfl)
  have w9 := hts (.instanceMethod yJx4a65c_init_da8c8) (List.mem_of_getElem? (i := 12) rfl)
  have w10 := hts (.fieldLink RX8 19 "TutorlightModel$Known" "answers" "Ljava/util/ArrayList;") (List.mem_of_getElem? (i := 9) rfl)
  have w11 := hts (.fieldLink RX8 23 "TutorlightModel$Known" "due" "I") (List.mem_of_getElem? (i := 10) rfl)
  have nX8 : ∀ w ∈ wsX80, w ∈ wsX8_init := fun _ h => List.mem_cons_of_mem _ (List.mem_append_left _ (List.mem_append_right _ h))
  have nJx4a65c : ∀ w ∈ wsJx4a65c0, w ∈ wsX8_init := fun _ h => List.mem_cons_of_mem _ (List.mem_append_right _ h)
  refine lv_aload_n hx hb dX8_init_0 rfl (lv_at hl 0 rfl) ?_
  refine W.objInit hx hb hown w0 w1 w2 rfl (by rw [hml]; exact hl.1) rfl dX8_init_1 (Nat.le_of_ble_eq_true rfl) (Nat.le_of_ble_eq_true rfl) ?_
  refine W.eq (g2 := F0 m 4 ls []) rfl ?_
  refine lv_aload_n hx hb dX8_init_4 rfl (lv_at hl 0 rfl) ?_
  refine lv_sipush (v := 200) hx hb dX8_init_5 (by decide) ?_
  refine mq_put (ci := 13) (v := .int 200) (ty := .int) (C := RX8) (T := TX8) (N := 6) (fs' := [.int 200, .int 0, .null, .int 0, .int 0, .int 0]) hx hb hts nX8 tyX8 tyX8_ok nmX8 hown hK hM hS hp rfl 0 (by decide) w3 (fun _ h9 => h9) rfl (by decide +kernel) rfl rfl (Nat.le_of_ble_eq_true rfl) dX8_init_8 rfl (fun f_1 H locs e_2 hM hS => ?_)
  have h_3 : f_1 x = some (.inr (13, [.int 200, .int 0, .null, .int 0, .int 0, .int 0])) := mq_s e_2
  refine lv_aload_n hx hb dX8_init_11 rfl (lv_at hl 0 rfl) ?_
  refine lv_sipush (v := 200) hx hb dX8_init_12 (by decide) ?_
  refine mq_put (ci := 13) (v := .int 200) (ty := .int) (C := RX8) (T := TX8) (N := 6) (fs' := [.int 200, .int 200, .null, .int 0, .int 0, .int 0]) hx hb hts nX8 tyX8 tyX8_ok nmX8 hown hK hM hS h_3 rfl 1 (by decide) w4 (fun _ h9 => h9) rfl (by decide +kernel) rfl rfl (Nat.le_of_ble_eq_true rfl) dX8_init_15 rfl (fun f_4 H locs e_5 hM hS => ?_)
  have h_6 : f_4 x = some (.inr (13, [.int 200, .int 200, .null, .int 0, .int 0, .int 0])) := mq_s e_5
  refine lv_aload_n hx hb dX8_init_18 rfl (lv_at hl 0 rfl) ?_
  refine mq_new (ci := 4) (fs := [.int 0, .null, .int 0]) (C := RJx4a65c) (T := TJx4a65c) (N := 3) hx hb hts nJx4a65c tyJx4a65c tyJx4a65c_ok hown w5 w6 w7 hK hM hS hA rfl (fun j hj => by rcases (show j = 0 ∨ j = 1 ∨ j = 2 by omega) with rfl | rfl | rfl <;> rfl) (Nat.le_of_ble_eq_true rfl) (Nat.le_of_ble_eq_true rfl) dX8_init_19 (fun q19 f_7 H hq19 e_8 hM hS => ?_)
  refine W.widen (k := 1) (n := 3) (Nat.le_of_ble_eq_true rfl) (Nat.le_of_ble_eq_true rfl) ?_
  have h_9 : f_7 x = some (.inr (13, [.int 200, .int 200, .null, .int 0, .int 0, .int 0])) := mq_n e_8 h_6 (mq_neN h_6 hq19)
  have h_10 : f_7 q19 = some (.inr (4, [.int 0, .null, .int 0])) := mq_s e_8
  refine lv_dup hx hb dX8_init_22 rfl ?_
  refine mq_callv (va_runI (As := []) (rest := [.ref q19, .ref x]) ⟨hx, hb, hml, hown, hts⟩ (c_Jx4a65c_init_da8c8 l G A f_7 q19) (cwI 0 hts gX8_init_Jx4a65c_init_da8c8 rfl rfl rfl w7 w8 w9 rfl (by decide +kernel) ⟨Nat.le_of_ble_eq_true rfl, Nat.le_of_ble_eq_true rfl⟩) (mq_preS hK hZ hS hA hM (h_10) _) rfl rfl hl.1 rfl (lv_room (Nat.le_of_ble_eq_true rfl)) dX8_init_23 ⟨Nat.le_of_ble_eq_true rfl, Nat.le_of_ble_eq_true rfl⟩) hS (fun g23 H locs p23 hM hS => ?_)
  refine W.widen (k := 1) (n := 3) (Nat.le_of_ble_eq_true rfl) (Nat.le_of_ble_eq_true rfl) ?_
  have h_11 : g23 x = some (.inr (13, [.int 200, .int 200, .null, .int 0, .int 0, .int 0])) := mq_n p23 h_9 (mq_neN h_6 hq19)
  have h_12 : g23 q19 = some (.inr (4, [.int 0, .ref (sE G), .int (nI 0)])) := mq_s p23
  refine mq_putF (ci := 13) (v := .ref q19) (ty := .object "java/util/ArrayList") (C := RX8) (T := TX8) (N := 6) (fs' := [.int 200, .int 200, .ref q19, .int 0, .int 0, .int 0]) hx hb hts nX8 tyX8 tyX8_ok nmX8 hown hK hM hS h_11 rfl 2 (by decide) w10 (fun _ h9 => h9) rfl hin rfl (by decide +kernel) rfl rfl (Nat.le_of_ble_eq_true rfl) dX8_init_26 rfl (fun f_13 H locs e_14 hM hS => ?_)
  have h_15 : f_13 q19 = some (.inr (4, [.int 0, .ref (sE G), .int (nI 0)])) := mq_n e_14 h_12 (Ne.symm (mq_neN h_6 hq19))
  have h_16 : f_13 x = some (.inr (13, [.int 200, .int 200, .ref q19, .int 0, .int 0, .int 0])) := mq_s e_14
  refine lv_aload_n hx hb dX8_init_29 rfl (lv_at hl 0 rfl) ?_
  refine lv_iconst (v := (-1)) hx hb dX8_init_30 (by decide) ?_
  refine mq_put (ci := 13) (v := .int (-1)) (ty := .int) (C := RX8) (T := TX8) (N := 6) (fs' := [.int 200, .int 200, .ref q19, .int 0, .int 0, .int (-1)]) hx hb hts nX8 tyX8 tyX8_ok nmX8 hown hK hM hS h_16 rfl 5 (by decide) w11 (fun _ h9 => h9) rfl (by decide +kernel) rfl rfl (Nat.le_of_ble_eq_true rfl) dX8_init_31 rfl (fun f_17 H locs e_18 hM hS => ?_)
  have h_19 : f_17 q19 = some (.inr (4, [.int 0, .ref (sE G), .int (nI 0)])) := mq_n e_18 h_15 (Ne.symm (mq_neN h_6 hq19))
  have h_20 : f_17 x = some (.inr (13, [.int 200, .int 200, .ref q19, .int 0, .int 0, .int (-1)])) := mq_s e_18
  exact mq_vret hx hb hr hlocks hM hS (by have k1 := mq_nn e_5 hq19; have k2 := mq_nn e_2 k1.1; exact ⟨q19, k2.1, k2.2, by rw [e_18, e_14, p23, e_8, e_5, e_2]; simp only [mq_uu]; exact mq_ucu k2.2.symm⟩) dX8_init_34

set_option maxHeartbeats 4000000 in
set_option maxRecDepth 100000 in
theorem c_X10_init (l : Launch) (G : mq_G) (A : Nat → Prop) (f : mq_F) (x : Nat) : Met l yX10_init wsX10_init ({ frames := 1, cells := 1, slots := 10, locals := 24 } : Room) (mq_Pc G A f (f x = some (.inr (15, [.int 0, .int 0, .int 0, .null]))) [.ref x]) (mq_Qv G A (fun g => ∃ q, f q = none ∧ q ≠ x ∧ g = mq_up (mq_up f q (cBo G 0)) x (.inr (15, [.int 0, .int 0, .int 0, .ref q])))) 1 10 A := by
  refine Met.ofW (cc := cX10_init) (maxL := 1) (ret := none) (by decide) rfl ?_
  intro p e s m args below meth c s₁ B hml hv
  obtain ⟨rfl, ⟨hK, hZ, hM, hA⟩, hp⟩ := hv
  have hx := B.exec
  have hb := B.bytes
  have hr := B.returns
  have hts := atoms_spec (ws := wsX10_init) B.pre
  have hown : s.vm.findClass RX10 = some m.cls := findClass_of_methodNamed B.named
  have hlocks := B.notSynchronized
  have hin : meth.name = "<init>" := (name_of_methodNamed B.named B.method).1
  have hS : va_S A s.heap s.heap [] := va_S.rf
  have hl := lv_entry ([.ref x]) (n := 1) (Nat.le_of_ble_eq_true rfl)
  rw [lg_entry_eq]
  generalize (lg_sl ([.ref x]) ++ List.replicate (1 - (lg_sl ([.ref x])).length) Slot.unset).toArray = ls at hl ⊢
  have hl : lv_has ls 1 [(0, .ref x)] := hl
  have w0 := hts (.methodLink RX10 1 objectInit) (List.mem_of_getElem? (i := 1) rfl)
  have w1 := hts (.instanceMethod objectInit) (List.mem_of_getElem? (i := 2) rfl)
  have w2 := hts (.code objectInit ⟨#[0xb1]⟩ 1 none) (List.mem_of_getElem? (i := 3) rfl)
  have w3 := hts (.arrayClass .boolean) (List.mem_of_getElem? (i := 4) rfl)
  have w4 := hts (.fieldLink RX10 7 "TutorlightModel$Skill" "needs" "[Z") (List.mem_of_getElem? (i := 5) rfl)
  have nX10 : ∀ w ∈ wsX100, w ∈ wsX10_init := fun _ h => List.mem_cons_of_mem _ (List.mem_append_right _ h)
  refine lv_aload_n hx hb dX10_init_0 rfl (lv_at hl 0 rfl) ?_
  refine W.objInit hx hb hown w0 w1 w2 rfl (by rw [hml]; exact hl.1) rfl dX10_init_1 (Nat.le_of_ble_eq_true rfl) (Nat.le_of_ble_eq_true rfl) ?_
  refine W.eq (g2 := F0 m 4 ls []) rfl ?_
  refine lv_aload_n hx hb dX10_init_4 rfl (lv_at hl 0 rfl) ?_
  refine lv_bipush (v := 10) hx hb dX10_init_5 (by decide) ?_
  refine mq_newZ (N' := 10) hx hb w3 hK hM hS hA (by decide) (rfl) (Nat.le_of_ble_eq_true rfl) (Nat.le_of_ble_eq_true rfl) (Nat.le_of_ble_eq_true rfl) dX10_init_7 (fun q7 f_1 H hq7 e_2 hM hS => ?_)
  refine W.widen (k := 1) (n := 10) (Nat.le_of_ble_eq_true rfl) (Nat.le_of_ble_eq_true rfl) ?_
  have h_3 : f_1 x = some (.inr (15, [.int 0, .int 0, .int 0, .null])) := mq_n e_2 hp (mq_neN hp hq7)
  have h_4 : f_1 q7 = some (.inl (G.2 2, 10, .inl (fun _ => 0))) := mq_s e_2
  refine mq_putF (ci := 15) (v := .ref q7) (ty := .array (.boolean)) (C := RX10) (T := TX10) (N := 4) (fs' := [.int 0, .int 0, .int 0, .ref q7]) hx hb hts nX10 tyX10 tyX10_ok nmX10 hown hK hM hS h_3 rfl 3 (by decide) w4 (fun _ h9 => h9) rfl hin rfl (by decide +kernel) rfl rfl (Nat.le_of_ble_eq_true rfl) dX10_init_9 rfl (fun f_5 H locs e_6 hM hS => ?_)
  have h_7 : f_5 q7 = some (.inl (G.2 2, 10, .inl (fun _ => 0))) := mq_n e_6 h_4 (Ne.symm (mq_neN hp hq7))
  have h_8 : f_5 x = some (.inr (15, [.int 0, .int 0, .int 0, .ref q7])) := mq_s e_6
  exact mq_vret hx hb hr hlocks hM hS (⟨q7, hq7, (mq_neN hp hq7).symm, by rw [e_6, e_2, bo_0]⟩) dX10_init_12

set_option maxHeartbeats 4000000 in
set_option maxRecDepth 100000 in
theorem c_X9_init (l : Launch) (G : mq_G) (A : Nat → Prop) (f : mq_F) (x : Nat) : Met l yX9_init wsX9_init ({ frames := 5, cells := 22, slots := 103, locals := 104 } : Room) (mq_Pc G A f (f x = some (.inr (14, [.null, .null, .null, .int 0, .int 0, .int 0, .null, .null]))) [.ref x]) (mq_Qv G A (fun g => ∃ kA mL ma wo, lk_made G f g x kA mL ma wo)) 22 103 A := by
  refine Met.ofW (cc := cX9_init) (maxL := 2) (ret := none) (by decide) rfl ?_
  intro p e s m args below meth c s₁ B hml hv
  obtain ⟨rfl, ⟨hK, hZ, hM, hA⟩, hp⟩ := hv
  have hx := B.exec
  have hb := B.bytes
  have hr := B.returns
  have hts := atoms_spec (ws := wsX9_init) B.pre
  have hown : s.vm.findClass RX9 = some m.cls := findClass_of_methodNamed B.named
  have hlocks := B.notSynchronized
  have hin : meth.name = "<init>" := (name_of_methodNamed B.named B.method).1
  have hS : va_S A s.heap s.heap [] := va_S.rf
  have hl := lv_entry ([.ref x]) (n := 2) (Nat.le_of_ble_eq_true rfl)
  rw [lg_entry_eq]
  generalize (lg_sl ([.ref x]) ++ List.replicate (2 - (lg_sl ([.ref x])).length) Slot.unset).toArray = ls at hl ⊢
  have hl : lv_has ls 2 [(0, .ref x)] := hl
  have w0 := hts (.methodLink RX9 1 objectInit) (List.mem_of_getElem? (i := 1) rfl)
  have w1 := hts (.instanceMethod objectInit) (List.mem_of_getElem? (i := 2) rfl)
  have w2 := hts (.code objectInit ⟨#[0xb1]⟩ 1 none) (List.mem_of_getElem? (i := 3) rfl)
  have w3 := hts (.classLink RX9 7 RX8) (List.mem_of_getElem? (i := 4) rfl)
  have w4 := hts (.fieldLink RX9 9 "TutorlightModel$Learner" "known" "[LTutorlightModel$Known;") (List.mem_of_getElem? (i := 5) rfl)
  have w5 := hts (.classLink RX9 15 RJx4a65c) (List.mem_of_getElem? (i := 6) rfl)
  have w6 := hts (.instantiable RJx4a65c 3) (List.mem_of_getElem? (i := 7) rfl)
  have w7 := hts (.initialized RJx4a65c) (List.mem_of_getElem? (i := 8) rfl)
  have w8 := hts (.methodLink RX9 17 yJx4a65c_init_da8c8) (List.mem_of_getElem? (i := 12) rfl)
  have w9 := hts (.instanceMethod yJx4a65c_init_da8c8) (List.mem_of_getElem? (i := 13) rfl)
  have w10 := hts (.fieldLink RX9 18 "TutorlightModel$Learner" "made" "Ljava/util/ArrayList;") (List.mem_of_getElem? (i := 9) rfl)
  have w11 := hts (.instantiable RX8 6) (List.mem_of_getElem? (i := 10) rfl)
  have w12 := hts (.initialized RX8) (List.mem_of_getElem? (i := 11) rfl)
  have w13 := hts (.instanceMethod yX8_init) (List.mem_of_getElem? (i := 27) rfl)
  have nX9 : ∀ w ∈ wsX90, w ∈ wsX9_init := fun _ h => List.mem_cons_of_mem _ (List.mem_append_left _ (List.mem_append_left _ (List.mem_append_right _ h)))
  have nJx4a65c : ∀ w ∈ wsJx4a65c0, w ∈ wsX9_init := fun _ h => List.mem_cons_of_mem _ (List.mem_append_left _ (List.mem_append_right _ h))
  have nX8 : ∀ w ∈ wsX80, w ∈ wsX9_init := fun _ h => List.mem_cons_of_mem _ (List.mem_append_right _ h)
  refine lv_aload_n hx hb dX9_init_0 rfl (lv_at hl 0 rfl) ?_
  refine W.objInit hx hb hown w0 w1 w2 rfl (by rw [hml]; exact hl.1) rfl dX9_init_1 (Nat.le_of_ble_eq_true rfl) (Nat.le_of_ble_eq_true rfl) ?_
  refine W.eq (g2 := F0 m 4 ls []) rfl ?_
  refine lv_aload_n hx hb dX9_init_4 rfl (lv_at hl 0 rfl) ?_
  refine lv_bipush (v := 10) hx hb dX9_init_5 (by decide) ?_
  refine mq_newq (t0 := 7) (N' := 10) hx hb rfl hown w3 (mq_over hZ (by decide +kernel)) hK hM hS hA (by decide) (rfl) (Nat.le_of_ble_eq_true rfl) (Nat.le_of_ble_eq_true rfl) (Nat.le_of_ble_eq_true rfl) dX9_init_7 (fun q7 f_1 H hq7 e_2 hM hS => ?_)
  refine W.widen (k := 1) (n := 10) (Nat.le_of_ble_eq_true rfl) (Nat.le_of_ble_eq_true rfl) ?_
  have h_3 : f_1 x = some (.inr (14, [.null, .null, .null, .int 0, .int 0, .int 0, .null, .null])) := mq_n e_2 hp (mq_neN hp hq7)
  have h_4 : f_1 q7 = some (.inl (G.2 7, 10, .inr (.inr (.inr (.inr (fun _ => none)))))) := mq_s e_2
  refine mq_putF (ci := 14) (v := .ref q7) (ty := .array (.object "TutorlightModel$Known")) (C := RX9) (T := TX9) (N := 8) (fs' := [.ref q7, .null, .null, .int 0, .int 0, .int 0, .null, .null]) hx hb hts nX9 tyX9 tyX9_ok nmX9 hown hK hM hS h_3 rfl 0 (by decide) w4 (fun _ h9 => h9) rfl hin rfl (by decide +kernel) rfl rfl (Nat.le_of_ble_eq_true rfl) dX9_init_10 rfl (fun f_5 H locs e_6 hM hS => ?_)
  have h_7 : f_5 q7 = some (.inl (G.2 7, 10, .inr (.inr (.inr (.inr (fun _ => none)))))) := mq_n e_6 h_4 (Ne.symm (mq_neN hp hq7))
  have h_8 : f_5 x = some (.inr (14, [.ref q7, .null, .null, .int 0, .int 0, .int 0, .null, .null])) := mq_s e_6
  refine lv_aload_n hx hb dX9_init_13 rfl (lv_at hl 0 rfl) ?_
  refine mq_new (ci := 4) (fs := [.int 0, .null, .int 0]) (C := RJx4a65c) (T := TJx4a65c) (N := 3) hx hb hts nJx4a65c tyJx4a65c tyJx4a65c_ok hown w5 w6 w7 hK hM hS hA rfl (fun j hj => by rcases (show j = 0 ∨ j = 1 ∨ j = 2 by omega) with rfl | rfl | rfl <;> rfl) (Nat.le_of_ble_eq_true rfl) (Nat.le_of_ble_eq_true rfl) dX9_init_14 (fun q14 f_9 H hq14 e_10 hM hS => ?_)
  refine W.widen (k := 2) (n := 13) (Nat.le_of_ble_eq_true rfl) (Nat.le_of_ble_eq_true rfl) ?_
  have h_11 : f_9 q7 = some (.inl (G.2 7, 10, .inr (.inr (.inr (.inr (fun _ => none)))))) := mq_n e_10 h_7 (mq_neN h_7 hq14)
  have h_12 : f_9 x = some (.inr (14, [.ref q7, .null, .null, .int 0, .int 0, .int 0, .null, .null])) := mq_n e_10 h_8 (mq_neN h_8 hq14)
  have h_13 : f_9 q14 = some (.inr (4, [.int 0, .null, .int 0])) := mq_s e_10
  refine lv_dup hx hb dX9_init_17 rfl ?_
  have hf14 : f q14 = none := mq_fr e_2 (mq_fr e_6 hq14)
  refine mq_callv (va_runI (As := []) (rest := [.ref q14, .ref x]) ⟨hx, hb, hml, hown, hts⟩ (c_Jx4a65c_init_da8c8 l G A f_9 q14) (cwI 0 hts gX9_init_Jx4a65c_init_da8c8 rfl rfl rfl w7 w8 w9 rfl (by decide +kernel) ⟨Nat.le_of_ble_eq_true rfl, Nat.le_of_ble_eq_true rfl⟩) (mq_preS hK hZ hS hA hM (h_13) _) rfl rfl hl.1 rfl (lv_room (Nat.le_of_ble_eq_true rfl)) dX9_init_18 ⟨Nat.le_of_ble_eq_true rfl, Nat.le_of_ble_eq_true rfl⟩) hS (fun g18 H locs p18 hM hS => ?_)
  refine W.widen (k := 2) (n := 13) (Nat.le_of_ble_eq_true rfl) (Nat.le_of_ble_eq_true rfl) ?_
  have h_14 : g18 q7 = some (.inl (G.2 7, 10, .inr (.inr (.inr (.inr (fun _ => none)))))) := mq_n p18 h_11 (mq_neN h_7 hq14)
  have h_15 : g18 x = some (.inr (14, [.ref q7, .null, .null, .int 0, .int 0, .int 0, .null, .null])) := mq_n p18 h_12 (mq_neN h_8 hq14)
  have h_16 : g18 q14 = some (.inr (4, [.int 0, .ref (sE G), .int (nI 0)])) := mq_s p18
  refine mq_putF (ci := 14) (v := .ref q14) (ty := .object "java/util/ArrayList") (C := RX9) (T := TX9) (N := 8) (fs' := [.ref q7, .ref q14, .null, .int 0, .int 0, .int 0, .null, .null]) hx hb hts nX9 tyX9 tyX9_ok nmX9 hown hK hM hS h_15 rfl 1 (by decide) w10 (fun _ h9 => h9) rfl hin rfl (by decide +kernel) rfl rfl (Nat.le_of_ble_eq_true rfl) dX9_init_21 rfl (fun f_17 H locs e_18 hM hS => ?_)
  have h_19 : f_17 q7 = some (.inl (G.2 7, 10, .inr (.inr (.inr (.inr (fun _ => none)))))) := mq_n e_18 h_14 (Ne.symm (mq_neN hp hq7))
  have h_20 : f_17 q14 = some (.inr (4, [.int 0, .ref (sE G), .int (nI 0)])) := mq_n e_18 h_16 (Ne.symm (mq_neN h_8 hq14))
  have h_21 : f_17 x = some (.inr (14, [.ref q7, .ref q14, .null, .int 0, .int 0, .int 0, .null, .null])) := mq_s e_18
  refine lv_iconst (v := 0) hx hb dX9_init_24 (by decide) ?_
  refine lv_istore_n (lv' := [(1, .int 0), (0, .ref x)]) hx hb dX9_init_25 rfl hl (by decide) rfl (fun ls hl => ?_)
  have K26 : ∀ (n9 : Nat) (i : Nat) (ma wo : Nat → Nat), (10 - i) < n9 → (i ≤ 10) → ∀ (f9 : mq_F), f9 x = some (.inr (14, [.ref q7, .ref q14, .null, .int 0, .int 0, .int 0, .null, .null])) → f9 q7 = some (.inl (G.2 7, 10, .inr (.inr (.inr (.inr (rf_of i ma)))))) → f9 q14 = some (.inr (4, [.int 0, .ref (sE G), .int (nI 0)])) → (lr_I cK0 (cLs 0 (sE G) 0) f f9 x ma wo i) → (∀ k, k < i → wo k ≠ q14) → ∀ (H : Heap) (locs : List Loc), mq_W G.1 A f9 H → va_S A s.heap H locs → ∀ (ls : Array Slot), lv_has ls 2 [(0, .ref x), (1, .int (nI i))] → W p l e (headSpec wsX9_init ({ frames := 5, cells := 22, slots := 103, locals := 104 } : Room)).room s m ([.ref x] : List Value).toArray below meth c H locs ((2 + 2 * i)) ((13 + 9 * i)) (MQ below (mq_Qv G A (fun g => ∃ kA mL ma wo, lk_made G f g x kA mL ma wo)) ([.ref x] : List Value).toArray s 22 103 A) (F0 m 26 ls []) := by
    intro n9
    induction n9 with
    | zero => intro i ma wo hn9; exact absurd hn9 (Nat.not_lt_zero _)
    | succ n9 ih26 =>
      intro i ma wo hn9 hi f9 hx0 h7 h14 hI hW H locs hM hS ls hl
      refine lv_iload_n hx hb dX9_init_26 rfl (lv_at hl 1 rfl) ?_
      refine lv_bipush (v := 10) hx hb dX9_init_27 (by decide) ?_
      refine lv_icmp_ge (tgt := 51) hx hb dX9_init_29 (by decide) (fun c_29 => ?_) (fun c_29 => ?_)
      · replace c_29 : nI 10 ≤ nI i := c_29
        rw [nI_leI (by omega) (by omega)] at c_29
        obtain rfl : i = 10 := by omega
        refine W.widen (k := 22) (n := 103) (by omega) (by omega) ?_
        exact mq_vret hx hb hr hlocks hM hS (⟨q7, q14, ma, wo, hI, hq7, hf14, hx0, h7, h14, hW⟩) dX9_init_51
      · replace c_29 : ¬ nI 10 ≤ nI i := c_29
        rw [nI_leI (by omega) (by omega)] at c_29
        refine lv_aload_n hx hb dX9_init_32 rfl (lv_at hl 0 rfl) ?_
        refine mq_get (ci := 14) (v := .ref q7) (C := RX9) (T := TX9) (N := 8) hx hb hts nX9 hown hK hM hx0 rfl 0 (by decide) w4 (fun _ h9 => h9) rfl dX9_init_33 ?_
        refine lv_iload_n hx hb dX9_init_36 rfl (lv_at hl 1 rfl) ?_
        refine mq_new (ci := 13) (fs := [.int 0, .int 0, .null, .int 0, .int 0, .int 0]) (C := RX8) (T := TX8) (N := 6) hx hb hts nX8 tyX8 tyX8_ok hown w3 w11 w12 hK hM hS hA rfl (fun j hj => by rcases (show j = 0 ∨ j = 1 ∨ j = 2 ∨ j = 3 ∨ j = 4 ∨ j = 5 by omega) with rfl | rfl | rfl | rfl | rfl | rfl <;> rfl) (by show ((2 + 2 * i)) + 1 ≤ 22; omega) (by show ((13 + 9 * i)) + 6 ≤ 103; omega) dX9_init_37 (fun q37 f_22 H hq37 e_23 hM hS => ?_)
        refine W.widen (k := ((2 + 2 * i) + 1)) (n := ((13 + 9 * i) + 6)) (by omega) (by omega) ?_
        have h_24 : f_22 x = some (.inr (14, [.ref q7, .ref q14, .null, .int 0, .int 0, .int 0, .null, .null])) := mq_n e_23 hx0 (mq_neN hx0 hq37)
        have h_25 : f_22 q7 = some (.inl (G.2 7, 10, .inr (.inr (.inr (.inr (rf_of i ma)))))) := mq_n e_23 h7 (mq_neN h7 hq37)
        have h_26 : f_22 q14 = some (.inr (4, [.int 0, .ref (sE G), .int (nI 0)])) := mq_n e_23 h14 (mq_neN h14 hq37)
        have h_27 : f_22 q37 = some (.inr (13, [.int 0, .int 0, .null, .int 0, .int 0, .int 0])) := mq_s e_23
        refine lv_dup hx hb dX9_init_40 rfl ?_
        refine mq_callv (va_runIN (As := []) (rest := [.ref q37, .int (nI i), .ref q7]) ⟨hx, hb, hml, hown, hts⟩ (c_X8_init l G A f_22 q37) (⟨va_cnB 0 hts gX9_init_X8_init_n22 rfl rfl rfl (mq_nestM (host := "TutorlightModel") hZ (by decide +kernel)) w12 (by decide +kernel) ⟨Nat.le_of_ble_eq_true rfl, Nat.le_of_ble_eq_true rfl⟩, rfl, w13⟩) (mq_preS hK hZ hS hA hM (h_27) _) rfl rfl hl.1 rfl (lv_room (Nat.le_of_ble_eq_true rfl)) dX9_init_41 ⟨by show ((2 + 2 * i) + 1) + 1 ≤ 22; omega, by show ((13 + 9 * i) + 6) + 3 ≤ 103; omega⟩) hS (fun g41 H locs p41 hM hS => ?_)
        refine W.widen (k := ((2 + 2 * i) + 2)) (n := ((13 + 9 * i) + 9)) (by omega) (by omega) ?_
        obtain ⟨w41, hw41, hn41, e41⟩ := p41
        obtain ⟨fw41, ew41⟩ : ∃ h, h = mq_up f_22 w41 (cLs 0 (sE G) 0) := ⟨_, rfl⟩
        rw [← ew41] at e41
        have h_28 : fw41 x = some (.inr (14, [.ref q7, .ref q14, .null, .int 0, .int 0, .int 0, .null, .null])) := mq_n ew41 h_24 (mq_neN h_24 hw41)
        have h_29 : fw41 q7 = some (.inl (G.2 7, 10, .inr (.inr (.inr (.inr (rf_of i ma)))))) := mq_n ew41 h_25 (mq_neN h_25 hw41)
        have h_30 : fw41 q14 = some (.inr (4, [.int 0, .ref (sE G), .int (nI 0)])) := mq_n ew41 h_26 (mq_neN h_26 hw41)
        have h_31 : fw41 q37 = some (.inr (13, [.int 0, .int 0, .null, .int 0, .int 0, .int 0])) := mq_n ew41 h_27 (mq_neN h_27 hw41)
        have h_32 : fw41 w41 = some (.inr (4, [.int 0, .ref (sE G), .int (nI 0)])) := mq_s ew41
        have h_33 : g41 x = some (.inr (14, [.ref q7, .ref q14, .null, .int 0, .int 0, .int 0, .null, .null])) := mq_n e41 h_28 (mq_neN hx0 hq37)
        have h_34 : g41 q7 = some (.inl (G.2 7, 10, .inr (.inr (.inr (.inr (rf_of i ma)))))) := mq_n e41 h_29 (mq_neN h7 hq37)
        have h_35 : g41 q14 = some (.inr (4, [.int 0, .ref (sE G), .int (nI 0)])) := mq_n e41 h_30 (mq_neN h14 hq37)
        have h_36 : g41 w41 = some (.inr (4, [.int 0, .ref (sE G), .int (nI 0)])) := mq_n e41 h_32 (Ne.symm (mq_neN h_27 hw41))
        have h_37 : g41 q37 = some (.inr (13, [.int 200, .int 200, .ref w41, .int 0, .int 0, .int (-1)])) := mq_s e41
        refine mq_aast (t0 := 7) (ci := 13) hx hb hK hM hS rfl h_34 h_37 rfl (vp_in_nI (by omega) (by omega)) dX9_init_44 (fun f_38 H locs e_39 hM hS => ?_)
        rw [show (nI i : Int32).toNatClampNeg = i from nI_clamp (by omega)] at e_39
        rw [show (va_up (rf_of i ma) i (some q37)) = (rf_of (i + 1) (fun k => if k = i then q37 else ma k)) from rf_S] at e_39
        have h_40 : f_38 x = some (.inr (14, [.ref q7, .ref q14, .null, .int 0, .int 0, .int 0, .null, .null])) := mq_n e_39 h_33 (mq_neN hp hq7)
        have h_41 : f_38 q14 = some (.inr (4, [.int 0, .ref (sE G), .int (nI 0)])) := mq_n e_39 h_35 (Ne.symm (mq_neN h_7 hq14))
        have h_42 : f_38 w41 = some (.inr (4, [.int 0, .ref (sE G), .int (nI 0)])) := mq_n e_39 h_36 (Ne.symm (mq_neN h_25 hw41))
        have h_43 : f_38 q37 = some (.inr (13, [.int 200, .int 200, .ref w41, .int 0, .int 0, .int (-1)])) := mq_n e_39 h_37 (Ne.symm (mq_neN h7 hq37))
        have h_44 : f_38 q7 = some (.inl (G.2 7, 10, .inr (.inr (.inr (.inr (rf_of (i + 1) (fun k => if k = i then q37 else ma k))))))) := mq_s e_39
        refine lv_iinc (v := nI (i + 1)) (lv' := [(1, .int (nI (i + 1))), (0, .ref x)]) hx hb dX9_init_45 hl (k := 1) rfl (nI_add _ _) (by decide) rfl (fun ls hl => ?_)
        refine lv_goto (tgt := 26) hx hb dX9_init_48 (by decide) ?_
        have hk1 : ∀ y e, y ≠ q7 → y ≠ q7 → f9 y = some e → f_38 y = some e := fun y9 e9 n1 _ he => by have n2 := mq_neN he hq37; have kp0 := mq_n e_23 he (mq_neN he hq37); have kp1 := mq_n ew41 kp0 (mq_neN kp0 hw41); have kp2 := mq_n e41 kp1 (n2); have kp3 := mq_n e_39 kp2 (n1); exact kp3
        have hw14 : w41 ≠ q14 := (mq_neN h14 (mq_fr e_23 hw41)).symm
        exact W.widen (by first | omega | (simp only [List.length_nil]; omega)) (by first | omega | (simp only [List.length_nil]; omega)) (ih26 (i + 1) (fun k => if k = i then q37 else ma k) (fun k => if k = i then w41 else wo k) (by omega) (by omega) _ h_40 h_44 h_41 (lr_step hI hx0 hq37 (mq_fr e_23 hw41) hn41.symm hk1 hq7 hq7 (fun k hk => ⟨mq_neA (hI.1 k hk).1 h7, mq_neA (hI.1 k hk).2.1 h7, mq_neA (hI.1 k hk).1 h7, mq_neA (hI.1 k hk).2.1 h7⟩) h_43 h_42) (wo_ne hW hw14) _ _ hM hS _ (lv_sub hl [1, 0] rfl))
  have hk0 : ∀ y e, y ≠ x → f y = some e → f_17 y = some e := fun y9 e9 hy he => by have kp0 := mq_n e_2 he (mq_neN he hq7); have kp1 := mq_n e_6 kp0 (hy); have kp2 := mq_n e_10 kp1 (mq_neN kp1 hq14); have kp3 := mq_n p18 kp2 ((mq_neN he hf14)); have kp4 := mq_n e_18 kp3 (hy); exact kp4
  exact W.widen (by first | omega | (simp only [List.length_nil]; omega)) (by first | omega | (simp only [List.length_nil]; omega)) (K26 _ 0 (fun _ => 0) (fun _ => 0) (Nat.lt_succ_self _) (Nat.zero_le _) _ h_21 h_19 h_20 (lr_0 hk0) (fun k hk => absurd hk (Nat.not_lt_zero k)) _ _ hM hS _ (lv_sub hl [1, 0] rfl))

set_option maxHeartbeats 4000000 in
set_option maxRecDepth 100000 in
theorem c_X11_init (l : Launch) (G : mq_G) (A : Nat → Prop) (f : mq_F) (x : Nat) : Met l yX11_init wsX11_init ({ frames := 4, cells := 2, slots := 6, locals := 84 } : Room) (mq_Pc G A f (f x = some (.inr (16, [.int 0, .int 0, .null, .null]))) [.ref x]) (mq_Qv G A (fun g => ∃ sL lL, f sL = none ∧ f lL = none ∧ sL ≠ lL ∧ g sL = some (cLs 0 (sE G) 0) ∧ g lL = some (cLs 0 (sE G) 0) ∧ g x = some (.inr (16, [.int 0, .int 0, .ref sL, .ref lL])) ∧ ∀ y e, y ≠ x → f y = some e → g y = some e)) 2 6 A := by
  refine Met.ofW (cc := cX11_init) (maxL := 1) (ret := none) (by decide) rfl ?_
  intro p e s m args below meth c s₁ B hml hv
  obtain ⟨rfl, ⟨hK, hZ, hM, hA⟩, hp⟩ := hv
  have hx := B.exec
  have hb := B.bytes
  have hr := B.returns
  have hts := atoms_spec (ws := wsX11_init) B.pre
  have hown : s.vm.findClass RX11 = some m.cls := findClass_of_methodNamed B.named
  have hlocks := B.notSynchronized
  have hin : meth.name = "<init>" := (name_of_methodNamed B.named B.method).1
  have hS : va_S A s.heap s.heap [] := va_S.rf
  have hl := lv_entry ([.ref x]) (n := 1) (Nat.le_of_ble_eq_true rfl)
  rw [lg_entry_eq]
  generalize (lg_sl ([.ref x]) ++ List.replicate (1 - (lg_sl ([.ref x])).length) Slot.unset).toArray = ls at hl ⊢
  have hl : lv_has ls 1 [(0, .ref x)] := hl
  have w0 := hts (.methodLink RX11 1 objectInit) (List.mem_of_getElem? (i := 1) rfl)
  have w1 := hts (.instanceMethod objectInit) (List.mem_of_getElem? (i := 2) rfl)
  have w2 := hts (.code objectInit ⟨#[0xb1]⟩ 1 none) (List.mem_of_getElem? (i := 3) rfl)
  have w3 := hts (.classLink RX11 7 RJx4a65c) (List.mem_of_getElem? (i := 4) rfl)
  have w4 := hts (.instantiable RJx4a65c 3) (List.mem_of_getElem? (i := 5) rfl)
  have w5 := hts (.initialized RJx4a65c) (List.mem_of_getElem? (i := 6) rfl)
  have w6 := hts (.methodLink RX11 9 yJx4a65c_init_da8c8) (List.mem_of_getElem? (i := 9) rfl)
  have w7 := hts (.instanceMethod yJx4a65c_init_da8c8) (List.mem_of_getElem? (i := 10) rfl)
  have w8 := hts (.fieldLink RX11 10 "TutorlightModel" "skills" "Ljava/util/ArrayList;") (List.mem_of_getElem? (i := 7) rfl)
  have w9 := hts (.fieldLink RX11 16 "TutorlightModel" "learners" "Ljava/util/ArrayList;") (List.mem_of_getElem? (i := 8) rfl)
  have nJx4a65c : ∀ w ∈ wsJx4a65c0, w ∈ wsX11_init := fun _ h => List.mem_cons_of_mem _ (List.mem_append_left _ (List.mem_append_right _ h))
  have nX11 : ∀ w ∈ wsX110, w ∈ wsX11_init := fun _ h => List.mem_cons_of_mem _ (List.mem_append_right _ h)
  refine lv_aload_n hx hb dX11_init_0 rfl (lv_at hl 0 rfl) ?_
  refine W.objInit hx hb hown w0 w1 w2 rfl (by rw [hml]; exact hl.1) rfl dX11_init_1 (Nat.le_of_ble_eq_true rfl) (Nat.le_of_ble_eq_true rfl) ?_
  refine W.eq (g2 := F0 m 4 ls []) rfl ?_
  refine lv_aload_n hx hb dX11_init_4 rfl (lv_at hl 0 rfl) ?_
  refine mq_new (ci := 4) (fs := [.int 0, .null, .int 0]) (C := RJx4a65c) (T := TJx4a65c) (N := 3) hx hb hts nJx4a65c tyJx4a65c tyJx4a65c_ok hown w3 w4 w5 hK hM hS hA rfl (fun j hj => by rcases (show j = 0 ∨ j = 1 ∨ j = 2 by omega) with rfl | rfl | rfl <;> rfl) (Nat.le_of_ble_eq_true rfl) (Nat.le_of_ble_eq_true rfl) dX11_init_5 (fun q5 f_1 H hq5 e_2 hM hS => ?_)
  refine W.widen (k := 1) (n := 3) (Nat.le_of_ble_eq_true rfl) (Nat.le_of_ble_eq_true rfl) ?_
  have h_3 : f_1 x = some (.inr (16, [.int 0, .int 0, .null, .null])) := mq_n e_2 hp (mq_neN hp hq5)
  have h_4 : f_1 q5 = some (.inr (4, [.int 0, .null, .int 0])) := mq_s e_2
  refine lv_dup hx hb dX11_init_8 rfl ?_
  refine mq_callv (va_runI (As := []) (rest := [.ref q5, .ref x]) ⟨hx, hb, hml, hown, hts⟩ (c_Jx4a65c_init_da8c8 l G A f_1 q5) (cwI 0 hts gX11_init_Jx4a65c_init_da8c8 rfl rfl rfl w5 w6 w7 rfl (by decide +kernel) ⟨Nat.le_of_ble_eq_true rfl, Nat.le_of_ble_eq_true rfl⟩) (mq_preS hK hZ hS hA hM (h_4) _) rfl rfl hl.1 rfl (lv_room (Nat.le_of_ble_eq_true rfl)) dX11_init_9 ⟨Nat.le_of_ble_eq_true rfl, Nat.le_of_ble_eq_true rfl⟩) hS (fun g9 H locs p9 hM hS => ?_)
  refine W.widen (k := 1) (n := 3) (Nat.le_of_ble_eq_true rfl) (Nat.le_of_ble_eq_true rfl) ?_
  have h_5 : g9 x = some (.inr (16, [.int 0, .int 0, .null, .null])) := mq_n p9 h_3 (mq_neN hp hq5)
  have h_6 : g9 q5 = some (.inr (4, [.int 0, .ref (sE G), .int (nI 0)])) := mq_s p9
  refine mq_putF (ci := 16) (v := .ref q5) (ty := .object "java/util/ArrayList") (C := RX11) (T := TX11) (N := 4) (fs' := [.int 0, .int 0, .ref q5, .null]) hx hb hts nX11 tyX11 tyX11_ok nmX11 hown hK hM hS h_5 rfl 2 (by decide) w8 (fun _ h9 => h9) rfl hin rfl (by decide +kernel) rfl rfl (Nat.le_of_ble_eq_true rfl) dX11_init_12 rfl (fun f_7 H locs e_8 hM hS => ?_)
  have h_9 : f_7 q5 = some (.inr (4, [.int 0, .ref (sE G), .int (nI 0)])) := mq_n e_8 h_6 (Ne.symm (mq_neN hp hq5))
  have h_10 : f_7 x = some (.inr (16, [.int 0, .int 0, .ref q5, .null])) := mq_s e_8
  refine lv_aload_n hx hb dX11_init_15 rfl (lv_at hl 0 rfl) ?_
  refine mq_new (ci := 4) (fs := [.int 0, .null, .int 0]) (C := RJx4a65c) (T := TJx4a65c) (N := 3) hx hb hts nJx4a65c tyJx4a65c tyJx4a65c_ok hown w3 w4 w5 hK hM hS hA rfl (fun j hj => by rcases (show j = 0 ∨ j = 1 ∨ j = 2 by omega) with rfl | rfl | rfl <;> rfl) (Nat.le_of_ble_eq_true rfl) (Nat.le_of_ble_eq_true rfl) dX11_init_16 (fun q16 f_11 H hq16 e_12 hM hS => ?_)
  refine W.widen (k := 2) (n := 6) (Nat.le_of_ble_eq_true rfl) (Nat.le_of_ble_eq_true rfl) ?_
  have h_13 : f_11 q5 = some (.inr (4, [.int 0, .ref (sE G), .int (nI 0)])) := mq_n e_12 h_9 (mq_neN h_9 hq16)
  have h_14 : f_11 x = some (.inr (16, [.int 0, .int 0, .ref q5, .null])) := mq_n e_12 h_10 (mq_neN h_10 hq16)
  have h_15 : f_11 q16 = some (.inr (4, [.int 0, .null, .int 0])) := mq_s e_12
  refine lv_dup hx hb dX11_init_19 rfl ?_
  refine mq_callv (va_runI (As := []) (rest := [.ref q16, .ref x]) ⟨hx, hb, hml, hown, hts⟩ (c_Jx4a65c_init_da8c8 l G A f_11 q16) (cwI 0 hts gX11_init_Jx4a65c_init_da8c8 rfl rfl rfl w5 w6 w7 rfl (by decide +kernel) ⟨Nat.le_of_ble_eq_true rfl, Nat.le_of_ble_eq_true rfl⟩) (mq_preS hK hZ hS hA hM (h_15) _) rfl rfl hl.1 rfl (lv_room (Nat.le_of_ble_eq_true rfl)) dX11_init_20 ⟨Nat.le_of_ble_eq_true rfl, Nat.le_of_ble_eq_true rfl⟩) hS (fun g20 H locs p20 hM hS => ?_)
  refine W.widen (k := 2) (n := 6) (Nat.le_of_ble_eq_true rfl) (Nat.le_of_ble_eq_true rfl) ?_
  have h_16 : g20 q5 = some (.inr (4, [.int 0, .ref (sE G), .int (nI 0)])) := mq_n p20 h_13 (mq_neN h_9 hq16)
  have h_17 : g20 x = some (.inr (16, [.int 0, .int 0, .ref q5, .null])) := mq_n p20 h_14 (mq_neN h_10 hq16)
  have h_18 : g20 q16 = some (.inr (4, [.int 0, .ref (sE G), .int (nI 0)])) := mq_s p20
  refine mq_putF (ci := 16) (v := .ref q16) (ty := .object "java/util/ArrayList") (C := RX11) (T := TX11) (N := 4) (fs' := [.int 0, .int 0, .ref q5, .ref q16]) hx hb hts nX11 tyX11 tyX11_ok nmX11 hown hK hM hS h_17 rfl 3 (by decide) w9 (fun _ h9 => h9) rfl hin rfl (by decide +kernel) rfl rfl (Nat.le_of_ble_eq_true rfl) dX11_init_23 rfl (fun f_19 H locs e_20 hM hS => ?_)
  have h_21 : f_19 q5 = some (.inr (4, [.int 0, .ref (sE G), .int (nI 0)])) := mq_n e_20 h_16 (Ne.symm (mq_neN hp hq5))
  have h_22 : f_19 q16 = some (.inr (4, [.int 0, .ref (sE G), .int (nI 0)])) := mq_n e_20 h_18 (Ne.symm (mq_neN h_10 hq16))
  have h_23 : f_19 x = some (.inr (16, [.int 0, .int 0, .ref q5, .ref q16])) := mq_s e_20
  exact mq_vret hx hb hr hlocks hM hS (by have n1 := mq_nn e_8 hq16; have n2 := mq_nn p9 n1.1; have n3 := mq_nn e_2 n2.1; exact ⟨q5, q16, hq5, n3.1, n3.2.symm, h_21, h_22, h_23, fun y9 e9 hy he => by have m5 := mq_neN he hq5; have m16 := mq_neN he n3.1; have kp0 := mq_n e_2 he (mq_neN he hq5); have kp1 := mq_n p9 kp0 (m5); have kp2 := mq_n e_8 kp1 (hy); have kp3 := mq_n e_12 kp2 (mq_neN kp2 hq16); have kp4 := mq_n p20 kp3 (m16); have kp5 := mq_n e_20 kp4 (hy); exact kp5⟩) dX11_init_26

set_option maxHeartbeats 2000000 in
theorem cT_asR {G : mq_G} {ad : AD} {S : AT} {X : CX} {S2 : AT} {Y : MX} {O : OX} {gu sl ga q w r cap : Nat} {mc : Int32} (hc : cap ≠ 0) : cU (cU (cU (cU (cT G ad S X S2 Y O) 26 (aN S2) 0 (cBo G 0)) 25 (aN S2) 0 (.inr (15, [.int (nI gu), .int (nI sl), .int (nI ga), .ref w]))) 22 0 0 (cRf (G.2 8) cap (rf_of (aN S2 + 1) (fun i => if i = aN S2 then q else ad 25 i 0)))) 21 0 0 (cLs mc r (aN S2 + 1)) = cT G (adU (adU (adU ad 26 (aN S2) 0 w) 25 (aN S2) 0 q) 22 0 0 r) S X (nsSkill S2 gu sl ga) (ySn Y (mc, cap)) O := by
  funext a j k
  exact (match a with
    | 0 => by first | rfl | (simp [aN, aL, aD, aS, aM, aE, sTop, sSk, sMa, sLe, xW, xLn, xOl, xB, xSo, xR, xK, sW, sRi, sXp, lEx, lWs, lMd, cU, cT, adU, fU, fU2]; done)
    | 1 => by first | rfl | (simp [aN, aL, aD, aS, aM, aE, sTop, sSk, sMa, sLe, xW, xLn, xOl, xB, xSo, xR, xK, sW, sRi, sXp, lEx, lWs, lMd, cU, cT, adU, fU, fU2]; done)
    | 2 => by first | rfl | (simp [aN, aL, aD, aS, aM, aE, sTop, sSk, sMa, sLe, xW, xLn, xOl, xB, xSo, xR, xK, sW, sRi, sXp, lEx, lWs, lMd, cU, cT, adU, fU, fU2]; done)
    | 3 => by first | rfl | (simp [aN, aL, aD, aS, aM, aE, sTop, sSk, sMa, sLe, xW, xLn, xOl, xB, xSo, xR, xK, sW, sRi, sXp, lEx, lWs, lMd, cU, cT, adU, fU, fU2]; done)
    | 4 => by first | rfl | (simp [aN, aL, aD, aS, aM, aE, sTop, sSk, sMa, sLe, xW, xLn, xOl, xB, xSo, xR, xK, sW, sRi, sXp, lEx, lWs, lMd, cU, cT, adU, fU, fU2]; done)
    | 5 => by first | rfl | (simp [aN, aL, aD, aS, aM, aE, sTop, sSk, sMa, sLe, xW, xLn, xOl, xB, xSo, xR, xK, sW, sRi, sXp, lEx, lWs, lMd, cU, cT, adU, fU, fU2]; done)
    | 6 => by first | rfl | (simp [aN, aL, aD, aS, aM, aE, sTop, sSk, sMa, sLe, xW, xLn, xOl, xB, xSo, xR, xK, sW, sRi, sXp, lEx, lWs, lMd, cU, cT, adU, fU, fU2]; done)
    | 7 => by first | rfl | (simp [aN, aL, aD, aS, aM, aE, sTop, sSk, sMa, sLe, xW, xLn, xOl, xB, xSo, xR, xK, sW, sRi, sXp, lEx, lWs, lMd, cU, cT, adU, fU, fU2]; done)
    | 8 => by first | rfl | (simp [aN, aL, aD, aS, aM, aE, sTop, sSk, sMa, sLe, xW, xLn, xOl, xB, xSo, xR, xK, sW, sRi, sXp, lEx, lWs, lMd, cU, cT, adU, fU, fU2]; done)
    | 9 => by first | rfl | (simp [aN, aL, aD, aS, aM, aE, sTop, sSk, sMa, sLe, xW, xLn, xOl, xB, xSo, xR, xK, sW, sRi, sXp, lEx, lWs, lMd, cU, cT, adU, fU, fU2]; done)
    | 10 => by first | rfl | (simp [aN, aL, aD, aS, aM, aE, sTop, sSk, sMa, sLe, xW, xLn, xOl, xB, xSo, xR, xK, sW, sRi, sXp, lEx, lWs, lMd, cU, cT, adU, fU, fU2]; done)
    | 11 => by first | rfl | (simp [aN, aL, aD, aS, aM, aE, sTop, sSk, sMa, sLe, xW, xLn, xOl, xB, xSo, xR, xK, sW, sRi, sXp, lEx, lWs, lMd, cU, cT, adU, fU, fU2]; done)
    | 12 => by first | rfl | (simp [aN, aL, aD, aS, aM, aE, sTop, sSk, sMa, sLe, xW, xLn, xOl, xB, xSo, xR, xK, sW, sRi, sXp, lEx, lWs, lMd, cU, cT, adU, fU, fU2]; done)
    | 13 => by first | rfl | (simp [aN, aL, aD, aS, aM, aE, sTop, sSk, sMa, sLe, xW, xLn, xOl, xB, xSo, xR, xK, sW, sRi, sXp, lEx, lWs, lMd, cU, cT, adU, fU, fU2]; done)
    | 14 => by first | rfl | (simp [aN, aL, aD, aS, aM, aE, sTop, sSk, sMa, sLe, xW, xLn, xOl, xB, xSo, xR, xK, sW, sRi, sXp, lEx, lWs, lMd, cU, cT, adU, fU, fU2]; done)
    | 15 => by first | rfl | (simp [aN, aL, aD, aS, aM, aE, sTop, sSk, sMa, sLe, xW, xLn, xOl, xB, xSo, xR, xK, sW, sRi, sXp, lEx, lWs, lMd, cU, cT, adU, fU, fU2]; done)
    | 16 => by first | rfl | (simp [aN, aL, aD, aS, aM, aE, sTop, sSk, sMa, sLe, xW, xLn, xOl, xB, xSo, xR, xK, sW, sRi, sXp, lEx, lWs, lMd, cU, cT, adU, fU, fU2]; done)
    | 17 => by first | rfl | (simp [aN, aL, aD, aS, aM, aE, sTop, sSk, sMa, sLe, xW, xLn, xOl, xB, xSo, xR, xK, sW, sRi, sXp, lEx, lWs, lMd, cU, cT, adU, fU, fU2]; done)
    | 18 => by first | rfl | (simp [aN, aL, aD, aS, aM, aE, sTop, sSk, sMa, sLe, xW, xLn, xOl, xB, xSo, xR, xK, sW, sRi, sXp, lEx, lWs, lMd, cU, cT, adU, fU, fU2]; done)
    | 19 => by first | rfl | (simp [aN, aL, aD, aS, aM, aE, sTop, sSk, sMa, sLe, xW, xLn, xOl, xB, xSo, xR, xK, sW, sRi, sXp, lEx, lWs, lMd, cU, cT, adU, fU, fU2]; done)
    | 20 => by first | rfl | (simp [aN, aL, aD, aS, aM, aE, sTop, sSk, sMa, sLe, xW, xLn, xOl, xB, xSo, xR, xK, sW, sRi, sXp, lEx, lWs, lMd, cU, cT, adU, fU, fU2]; done)
    | 21 => by
        by_cases h : j = 0 ∧ k = 0
        · obtain ⟨rfl, rfl⟩ := h; simp [aN, aL, aD, aS, aM, aE, sTop, sSk, sMa, sLe, xW, xLn, xOl, xB, xSo, xR, xK, sW, sRi, sXp, lEx, lWs, lMd, cU, cT, adU, fU, fU2, yT, yS, yL, yA, yM, yO, ySn, lsD, hc]
        · simp [cU, cT, adU, h]
    | 22 => by
        by_cases h : j = 0 ∧ k = 0
        · obtain ⟨rfl, rfl⟩ := h
          have e1 : (fun i => if i = aN S2 then q else ad 25 i 0) = (fun i => adU (adU (adU ad 26 (aN S2) 0 w) 25 (aN S2) 0 q) 22 0 0 r 25 i 0) := by
            funext i; simp [adU]
          show _ = (if cap ≠ 0 ∧ 0 = 0 ∧ 0 = 0 then some (cRf (G.2 8) cap (rf_of (aN S2 + 1) (fun i => adU (adU (adU ad 26 (aN S2) 0 w) 25 (aN S2) 0 q) 22 0 0 r 25 i 0))) else none)
          rw [if_pos ⟨hc, rfl, rfl⟩, ← e1]
          simp [cU]
        · simp [aN, aL, aD, aS, aM, aE, sTop, sSk, sMa, sLe, lEx, lWs, lMd, cU, cT, adU, fU, fU2, yT, yS, yL, yA, yM, yO, yAn, yMn, oMap, h]
    | 23 => by first | rfl | (simp [aN, aL, aD, aS, aM, aE, sTop, sSk, sMa, sLe, xW, xLn, xOl, xB, xSo, xR, xK, sW, sRi, sXp, lEx, lWs, lMd, cU, cT, adU, fU, fU2]; done)
    | 24 => by first | rfl | (simp [aN, aL, aD, aS, aM, aE, sTop, sSk, sMa, sLe, xW, xLn, xOl, xB, xSo, xR, xK, sW, sRi, sXp, lEx, lWs, lMd, cU, cT, adU, fU, fU2]; done)
    | 25 => by
        by_cases h : j = S2.1.1
        · subst h; by_cases h2 : k = 0 <;> simp [aN, aL, aD, aS, aM, aE, sTop, sSk, sMa, sLe, lEx, lWs, lMd, cU, cT, adU, fU, fU2, yT, yS, yL, yA, yM, yO, yAn, yMn, oMap, cBo, h2]
        · by_cases h3 : j < S2.1.1
          · have h4 : j < S2.1.1 + 1 := by omega
            simp [aN, aL, aD, aS, aM, aE, sTop, sSk, sMa, sLe, lEx, lWs, lMd, cU, cT, adU, fU, fU2, yT, yS, yL, yA, yM, yO, yAn, yMn, oMap, cBo, h, h3, h4]
          · have h4 : ¬ j < S2.1.1 + 1 := by omega
            simp [aN, aL, aD, aS, aM, aE, sTop, sSk, sMa, sLe, lEx, lWs, lMd, cU, cT, adU, fU, fU2, yT, yS, yL, yA, yM, yO, yAn, yMn, oMap, cBo, h, h3, h4]
    | 26 => by
        by_cases h : j = S2.1.1
        · subst h; by_cases h2 : k = 0 <;> simp [aN, aL, aD, aS, aM, aE, sTop, sSk, sMa, sLe, lEx, lWs, lMd, cU, cT, adU, fU, fU2, yT, yS, yL, yA, yM, yO, yAn, yMn, oMap, cBo, h2]
        · by_cases h3 : j < S2.1.1
          · have h4 : j < S2.1.1 + 1 := by omega
            simp [aN, aL, aD, aS, aM, aE, sTop, sSk, sMa, sLe, lEx, lWs, lMd, cU, cT, adU, fU, fU2, yT, yS, yL, yA, yM, yO, yAn, yMn, oMap, cBo, h, h3, h4]
          · have h4 : ¬ j < S2.1.1 + 1 := by omega
            simp [aN, aL, aD, aS, aM, aE, sTop, sSk, sMa, sLe, lEx, lWs, lMd, cU, cT, adU, fU, fU2, yT, yS, yL, yA, yM, yO, yAn, yMn, oMap, cBo, h, h3, h4]
    | 27 => by first | rfl | (simp [aN, aL, aD, aS, aM, aE, sTop, sSk, sMa, sLe, xW, xLn, xOl, xB, xSo, xR, xK, sW, sRi, sXp, lEx, lWs, lMd, cU, cT, adU, fU, fU2]; done)
    | 28 => by first | rfl | (simp [aN, aL, aD, aS, aM, aE, sTop, sSk, sMa, sLe, xW, xLn, xOl, xB, xSo, xR, xK, sW, sRi, sXp, lEx, lWs, lMd, cU, cT, adU, fU, fU2]; done)
    | 29 => by first | rfl | (simp [aN, aL, aD, aS, aM, aE, sTop, sSk, sMa, sLe, xW, xLn, xOl, xB, xSo, xR, xK, sW, sRi, sXp, lEx, lWs, lMd, cU, cT, adU, fU, fU2]; done)
    | 30 => by first | rfl | (simp [aN, aL, aD, aS, aM, aE, sTop, sSk, sMa, sLe, xW, xLn, xOl, xB, xSo, xR, xK, sW, sRi, sXp, lEx, lWs, lMd, cU, cT, adU, fU, fU2]; done)
    | 31 => by first | rfl | (simp [aN, aL, aD, aS, aM, aE, sTop, sSk, sMa, sLe, xW, xLn, xOl, xB, xSo, xR, xK, sW, sRi, sXp, lEx, lWs, lMd, cU, cT, adU, fU, fU2]; done)
    | 32 => by first | rfl | (simp [aN, aL, aD, aS, aM, aE, sTop, sSk, sMa, sLe, xW, xLn, xOl, xB, xSo, xR, xK, sW, sRi, sXp, lEx, lWs, lMd, cU, cT, adU, fU, fU2]; done)
    | 33 => by first | rfl | (simp [aN, aL, aD, aS, aM, aE, sTop, sSk, sMa, sLe, xW, xLn, xOl, xB, xSo, xR, xK, sW, sRi, sXp, lEx, lWs, lMd, cU, cT, adU, fU, fU2]; done)
    | 34 => by first | rfl | (simp [aN, aL, aD, aS, aM, aE, sTop, sSk, sMa, sLe, xW, xLn, xOl, xB, xSo, xR, xK, sW, sRi, sXp, lEx, lWs, lMd, cU, cT, adU, fU, fU2]; done)
    | 35 => by first | rfl | (simp [aN, aL, aD, aS, aM, aE, sTop, sSk, sMa, sLe, xW, xLn, xOl, xB, xSo, xR, xK, sW, sRi, sXp, lEx, lWs, lMd, cU, cT, adU, fU, fU2]; done)
    | 36 => by first | rfl | (simp [aN, aL, aD, aS, aM, aE, sTop, sSk, sMa, sLe, xW, xLn, xOl, xB, xSo, xR, xK, sW, sRi, sXp, lEx, lWs, lMd, cU, cT, adU, fU, fU2]; done)
    | 37 => by first | rfl | (simp [aN, aL, aD, aS, aM, aE, sTop, sSk, sMa, sLe, xW, xLn, xOl, xB, xSo, xR, xK, sW, sRi, sXp, lEx, lWs, lMd, cU, cT, adU, fU, fU2]; done)
    | 38 => by first | rfl | (simp [aN, aL, aD, aS, aM, aE, sTop, sSk, sMa, sLe, xW, xLn, xOl, xB, xSo, xR, xK, sW, sRi, sXp, lEx, lWs, lMd, cU, cT, adU, fU, fU2]; done)
    | 39 => by first | rfl | (simp [aN, aL, aD, aS, aM, aE, sTop, sSk, sMa, sLe, xW, xLn, xOl, xB, xSo, xR, xK, sW, sRi, sXp, lEx, lWs, lMd, cU, cT, adU, fU, fU2]; done)
    | n + 40 => by first | rfl | simp [cU, cT])

theorem WR_asR {G : mq_G} {f g : mq_F} {ad : AD} {S : AT} {X : CX} {S2 : AT} {Y : MX} {O : OX} {f1 : mq_F} {gu sl ga q w : Nat} {mc : Int32} (hR : WR G f ad S X S2 Y O) (hn : aN S2 ≤ (yS Y).2 ∧ ((yS Y).2 = 0 ∨ (yS Y).2 = 10)) (hl : aN S2 < 10) (hw : f w = none) (hq : f q = none) (hqw : q ≠ w) (h1 : f1 = mq_up (mq_up f w (cBo G 0)) q (.inr (15, [.int (nI gu), .int (nI sl), .int (nI ga), .ref w]))) (ha : addP G f1 g (ad 21 0 0) q mc (yS Y).2 (ad 22 0 0) (aN S2) (fun i => ad 25 i 0)) :
    ∃ r cap, (aN S2 + 1 ≤ cap ∧ (cap = 0 ∨ cap = 10)) ∧ WR G g (adU (adU (adU ad 26 (aN S2) 0 w) 25 (aN S2) 0 q) 22 0 0 r) S X (nsSkill S2 gu sl ga) (ySn Y (mc, cap)) O := by
  have r1 := RR.new hR (a := 26) (j := aN S2) (k := 0) hw (e := cBo G 0) (g := mq_up f w (cBo G 0)) rfl
  have r2 := RR.new r1 (a := 25) (j := aN S2) (k := 0) (q := q) (by rw [mq_up_n hqw]; exact hq) h1
  unfold addP at ha
  rcases ha with ⟨h5, h6⟩ | ⟨h5, r, h5r, h6⟩
  · have hc0 : (yS Y).2 ≠ 0 := by omega
    refine ⟨ad 22 0 0, (yS Y).2, ⟨h5, hn.2⟩, ?_⟩
    have r4 := RR.put r2 (a := 22) (j := 0) (k := 0) ((cU_n (by simp)).trans ((cU_n (by simp)).trans (t22 hc0))) rfl (e := cRf (G.2 8) (yS Y).2 (rf_of (aN S2 + 1) (fun i => if i = aN S2 then q else ad 25 i 0))) (g := mq_up f1 (ad 22 0 0) _) rfl
    have r5 := RR.put r4 (a := 21) (j := 0) (k := 0) ((cU_n (by simp)).trans ((cU_n (by simp)).trans ((cU_n (by simp)).trans t21))) rfl (e := cLs mc (ad 22 0 0) (aN S2 + 1)) (g := g) h6
    have eA : adU (adU (adU ad 26 (aN S2) 0 w) 25 (aN S2) 0 q) 22 0 0 (ad 22 0 0) = adU (adU ad 26 (aN S2) 0 w) 25 (aN S2) 0 q := adU_id (ad := adU (adU ad 26 (aN S2) 0 w) 25 (aN S2) 0 q)
    rw [← eA] at r5
    rw [cT_asR (r := ad 22 0 0) hc0] at r5; exact r5
  · have hy0 : (yS Y).2 = 0 := by omega
    have hnc : nc (yS Y).2 = 10 := by rw [hy0]; rfl
    rw [hnc] at h6
    refine ⟨r, 10, ⟨by omega, Or.inr rfl⟩, ?_⟩
    have r4 := RR.new r2 (a := 22) (j := 0) (k := 0) h5r (e := cRf (G.2 8) 10 (rf_of (aN S2 + 1) (fun i => if i = aN S2 then q else ad 25 i 0))) (g := mq_up f1 r _) rfl
    have r5 := RR.put r4 (a := 21) (j := 0) (k := 0) ((cU_n (by simp)).trans ((cU_n (by simp)).trans ((cU_n (by simp)).trans t21))) rfl (e := cLs mc r (aN S2 + 1)) (g := g) h6
    rw [cT_asR (r := r) (by decide)] at r5; exact r5

set_option maxHeartbeats 4000000 in
set_option maxRecDepth 100000 in
theorem c_X11_addSkill (l : Launch) (G : mq_G) (A : Nat → Prop) (f : mq_F) (ad : AD) (S : AT) (X : CX) (S2 : AT) (Y : MX) (O : OX) (T : Nat) (ua ub uc : Int32) : Met l yX11_addSkill wsX11_addSkill ({ frames := 7, cells := 3, slots := 24, locals := 171 } : Room) (mq_Pc G A f (WR G f ad S X S2 Y O ∧ mOK S2 Y T) [.ref (ad 20 0 0), .int ua, .int ub, .int uc]) (mq_Qi G A (fun r g => ∃ c9 S9 Y9 ad9, spSkill S2 ua ub uc = (c9, r, S9) ∧ WR G g ad9 S X S9 (yThr Y9 (nI c9)) O ∧ mCp S9 Y9 ∧ adK ad ad9)) 3 24 A := by
  refine Met.ofW (cc := cX11_addSkill) (maxL := 5) (ret := (some .int)) (by decide) rfl ?_
  intro p e s m args below meth c s₁ B hml hv
  obtain ⟨rfl, ⟨hK, hZ, hM, hA⟩, hp⟩ := hv
  have hx := B.exec
  have hb := B.bytes
  have hr := B.returns
  have hts := atoms_spec (ws := wsX11_addSkill) B.pre
  have hown : s.vm.findClass RX11 = some m.cls := findClass_of_methodNamed B.named
  have hlocks := B.notSynchronized
  have hS : va_S A s.heap s.heap [] := va_S.rf
  have hl := lv_entry ([.ref (ad 20 0 0), .int ua, .int ub, .int uc]) (n := 5) (Nat.le_of_ble_eq_true rfl)
  rw [lg_entry_eq]
  generalize (lg_sl ([.ref (ad 20 0 0), .int ua, .int ub, .int uc]) ++ List.replicate (5 - (lg_sl ([.ref (ad 20 0 0), .int ua, .int ub, .int uc])).length) Slot.unset).toArray = ls at hl ⊢
  have hl : lv_has ls 5 [(0, .ref (ad 20 0 0)), (1, .int ua), (2, .int ub), (3, .int uc)] := hl
  have w0 := hts (.fieldLink RX11 19 "TutorlightModel" "thrown" "I") (List.mem_of_getElem? (i := 1) rfl)
  have w1 := hts (.fieldLink RX11 10 "TutorlightModel" "skills" "Ljava/util/ArrayList;") (List.mem_of_getElem? (i := 2) rfl)
  have w2 := hts (.classLink RX11 52 RX10) (List.mem_of_getElem? (i := 3) rfl)
  have w3 := hts (.instantiable RX10 4) (List.mem_of_getElem? (i := 4) rfl)
  have w4 := hts (.initialized RX10) (List.mem_of_getElem? (i := 5) rfl)
  have w5 := hts (.instanceMethod yX10_init) (List.mem_of_getElem? (i := 23) rfl)
  have w6 := hts (.fieldLink RX11 55 "TutorlightModel$Skill" "guess" "I") (List.mem_of_getElem? (i := 6) rfl)
  have w7 := hts (.fieldLink RX11 58 "TutorlightModel$Skill" "slip" "I") (List.mem_of_getElem? (i := 7) rfl)
  have w8 := hts (.fieldLink RX11 61 "TutorlightModel$Skill" "gain" "I") (List.mem_of_getElem? (i := 8) rfl)
  have nX11 : ∀ w ∈ wsX110, w ∈ wsX11_addSkill := fun _ h => List.mem_cons_of_mem _ (List.mem_append_left _ (List.mem_append_left _ (List.mem_append_right _ h)))
  have nX10 : ∀ w ∈ wsX100, w ∈ wsX11_addSkill := fun _ h => List.mem_cons_of_mem _ (List.mem_append_left _ (List.mem_append_right _ h))
  obtain ⟨hR, hO⟩ := hp
  obtain ⟨⟨X9, ⟨hn, hl4, hd2, hT⟩, hsk, hma, hdc, hle, -⟩, ⟨hns, hnc⟩, ⟨hls, hlc⟩, hac, hmc⟩ := id hO
  have y20_298 := hR.1 _ _ _ _ (t20)
  refine lv_aload_n hx hb dX11_addSkill_0 rfl (lv_at hl 0 rfl) ?_
  refine lv_iconst (v := 0) hx hb dX11_addSkill_1 (by decide) ?_
  refine mq_put (ci := 16) (v := .int 0) (ty := .int) (C := RX11) (T := TX11) (N := 4) (fs' := [.int 0, .int (nI (aD S2)), .ref (ad 21 0 0), .ref (ad 23 0 0)]) hx hb hts nX11 tyX11 tyX11_ok nmX11 hown hK hM hS y20_298 rfl 0 (by decide) w0 (fun _ h9 => h9) rfl (by decide +kernel) rfl rfl (Nat.le_of_ble_eq_true rfl) dX11_addSkill_2 rfl (fun f_1 H locs e_2 hM hS => ?_)
  have h_3 : f_1 (ad 20 0 0) = some (.inr (16, [.int 0, .int (nI (aD S2)), .ref (ad 21 0 0), .ref (ad 23 0 0)])) := mq_s e_2
  have hR1 := WR_yt hR e_2
  refine lv_aload_n hx hb dX11_addSkill_5 rfl (lv_at hl 0 rfl) ?_
  refine lv_iload_n hx hb dX11_addSkill_6 rfl (lv_at hl 1 rfl) ?_
  refine lv_iconst (v := 0) hx hb dX11_addSkill_7 (by decide) ?_
  refine lv_sipush (v := 500) hx hb dX11_addSkill_8 (by decide) ?_
  refine mq_calli (va_runS (As := [.int ua, .int 0, .int 500]) (rest := [.ref (ad 20 0 0)]) ⟨hx, hb, hml, hown, hts⟩ (c_X11_in l G A f_1 ua 0 500) (va_cwS 3 hts gX11_addSkill_X11_in rfl rfl rfl (by decide +kernel) ⟨Nat.le_of_ble_eq_true rfl, Nat.le_of_ble_eq_true rfl⟩) (mq_preS hK hZ hS hA hM (trivial) _) rfl rfl hl.1 rfl (lv_room (Nat.le_of_ble_eq_true rfl)) dX11_addSkill_11 ⟨Nat.le_of_ble_eq_true rfl, Nat.le_of_ble_eq_true rfl⟩) hS (fun r11 g11 H locs p11 hM hS => ?_)
  refine W.widen (k := 0) (n := 0) (Nat.le_of_ble_eq_true rfl) (Nat.le_of_ble_eq_true rfl) ?_
  obtain ⟨rfl, rfl⟩ := p11
  rw [show inB ua 0 500 = vI ua 501 from inB_vI (n := 501) (by decide)]
  refine lv_if_eq (tgt := 39) hx hb dX11_addSkill_14 (by decide) (fun c_14 => ?_) (fun c_14 => ?_)
  · replace c_14 : zb (vI ua 501) = 0 := c_14
    rw [zb_0] at c_14
    refine lv_iconst (v := 1) hx hb dX11_addSkill_39 (by decide) ?_
    refine lv_goto (tgt := 44) hx hb dX11_addSkill_40 (by decide) ?_
    refine lv_iconst (v := 1) hx hb dX11_addSkill_44 (by decide) ?_
    refine mq_calli (va_runV (As := [.int 1, .int 1]) (rest := []) ⟨hx, hb, hml, hown, hts⟩ (c_X11_fails l G A f_1 (ad 20 0 0) true 1 0 (nI (aD S2)) (ad 21 0 0) (ad 23 0 0)) (cwV 2 hts gX11_addSkill_X11_fails rfl rfl rfl (by decide +kernel) ⟨Nat.le_of_ble_eq_true rfl, Nat.le_of_ble_eq_true rfl⟩) (mq_preV hK hZ hS hA hM (q := (RX11, TX11, 4)) h_3 rfl (h_3) _) rfl rfl hl.1 rfl (lv_room (Nat.le_of_ble_eq_true rfl)) dX11_addSkill_45 ⟨Nat.le_of_ble_eq_true rfl, Nat.le_of_ble_eq_true rfl⟩) hS (fun r45 g45 H locs p45 hM hS => ?_)
    refine W.widen (k := 0) (n := 0) (Nat.le_of_ble_eq_true rfl) (Nat.le_of_ble_eq_true rfl) ?_
    obtain ⟨hg, hr9⟩ := p45
    rw [hr9, show zb (decide (fT true 0 1 ≠ 0)) = 1 from by decide]
    refine lv_if_ne (tgt := 76) hx hb dX11_addSkill_48 (by decide) (fun c_48 => ?_) (fun c_48 => absurd c_48 (by decide))
    refine lv_iconst (v := 0) hx hb dX11_addSkill_76 (by decide) ?_
    refine W.widen (k := 3) (n := 24) (Nat.le_of_ble_eq_true rfl) (Nat.le_of_ble_eq_true rfl) ?_
    exact mq_iret (v := 0) hx hb hr hlocks hM hS (⟨1, S2, Y, ad, if_neg (by rw [Bool.not_eq_true]; rw [c_14]; rfl), (by have q9 := WR_yt hR1 hg; exact q9), hO.2, adK_id⟩) dX11_addSkill_77
  · replace c_14 : ¬ zb (vI ua 501) = 0 := c_14
    rw [zb_n0] at c_14
    obtain ⟨gu, hgu, rfl⟩ := vI_ex1 c_14
    refine lv_iload_n hx hb dX11_addSkill_17 rfl (lv_at hl 2 rfl) ?_
    refine lv_iconst (v := 0) hx hb dX11_addSkill_18 (by decide) ?_
    refine lv_sipush (v := 500) hx hb dX11_addSkill_19 (by decide) ?_
    refine mq_calli (va_runS (As := [.int ub, .int 0, .int 500]) (rest := [.ref (ad 20 0 0)]) ⟨hx, hb, hml, hown, hts⟩ (c_X11_in l G A f_1 ub 0 500) (va_cwS 3 hts gX11_addSkill_X11_in rfl rfl rfl (by decide +kernel) ⟨Nat.le_of_ble_eq_true rfl, Nat.le_of_ble_eq_true rfl⟩) (mq_preS hK hZ hS hA hM (trivial) _) rfl rfl hl.1 rfl (lv_room (Nat.le_of_ble_eq_true rfl)) dX11_addSkill_22 ⟨Nat.le_of_ble_eq_true rfl, Nat.le_of_ble_eq_true rfl⟩) hS (fun r22 g22 H locs p22 hM hS => ?_)
    refine W.widen (k := 0) (n := 0) (Nat.le_of_ble_eq_true rfl) (Nat.le_of_ble_eq_true rfl) ?_
    obtain ⟨rfl, rfl⟩ := p22
    rw [show inB ub 0 500 = vI ub 501 from inB_vI (n := 501) (by decide)]
    refine lv_if_eq (tgt := 39) hx hb dX11_addSkill_25 (by decide) (fun c_25 => ?_) (fun c_25 => ?_)
    · replace c_25 : zb (vI ub 501) = 0 := c_25
      rw [zb_0] at c_25
      refine lv_iconst (v := 1) hx hb dX11_addSkill_39 (by decide) ?_
      refine lv_goto (tgt := 44) hx hb dX11_addSkill_40 (by decide) ?_
      refine lv_iconst (v := 1) hx hb dX11_addSkill_44 (by decide) ?_
      refine mq_calli (va_runV (As := [.int 1, .int 1]) (rest := []) ⟨hx, hb, hml, hown, hts⟩ (c_X11_fails l G A f_1 (ad 20 0 0) true 1 0 (nI (aD S2)) (ad 21 0 0) (ad 23 0 0)) (cwV 2 hts gX11_addSkill_X11_fails rfl rfl rfl (by decide +kernel) ⟨Nat.le_of_ble_eq_true rfl, Nat.le_of_ble_eq_true rfl⟩) (mq_preV hK hZ hS hA hM (q := (RX11, TX11, 4)) h_3 rfl (h_3) _) rfl rfl hl.1 rfl (lv_room (Nat.le_of_ble_eq_true rfl)) dX11_addSkill_45 ⟨Nat.le_of_ble_eq_true rfl, Nat.le_of_ble_eq_true rfl⟩) hS (fun r45 g45 H locs p45 hM hS => ?_)
      refine W.widen (k := 0) (n := 0) (Nat.le_of_ble_eq_true rfl) (Nat.le_of_ble_eq_true rfl) ?_
      obtain ⟨hg, hr9⟩ := p45
      rw [hr9, show zb (decide (fT true 0 1 ≠ 0)) = 1 from by decide]
      refine lv_if_ne (tgt := 76) hx hb dX11_addSkill_48 (by decide) (fun c_48 => ?_) (fun c_48 => absurd c_48 (by decide))
      refine lv_iconst (v := 0) hx hb dX11_addSkill_76 (by decide) ?_
      refine W.widen (k := 3) (n := 24) (Nat.le_of_ble_eq_true rfl) (Nat.le_of_ble_eq_true rfl) ?_
      exact mq_iret (v := 0) hx hb hr hlocks hM hS (⟨1, S2, Y, ad, if_neg (by rw [Bool.not_eq_true]; rw [vI_nI hgu (by decide), c_25]; rfl), (by have q9 := WR_yt hR1 hg; exact q9), hO.2, adK_id⟩) dX11_addSkill_77
    · replace c_25 : ¬ zb (vI ub 501) = 0 := c_25
      rw [zb_n0] at c_25
      obtain ⟨sl, hsl, rfl⟩ := vI_ex1 c_25
      refine lv_iload_n hx hb dX11_addSkill_28 rfl (lv_at hl 3 rfl) ?_
      refine lv_iconst (v := 0) hx hb dX11_addSkill_29 (by decide) ?_
      refine lv_sipush (v := 500) hx hb dX11_addSkill_30 (by decide) ?_
      refine mq_calli (va_runS (As := [.int uc, .int 0, .int 500]) (rest := [.ref (ad 20 0 0)]) ⟨hx, hb, hml, hown, hts⟩ (c_X11_in l G A f_1 uc 0 500) (va_cwS 3 hts gX11_addSkill_X11_in rfl rfl rfl (by decide +kernel) ⟨Nat.le_of_ble_eq_true rfl, Nat.le_of_ble_eq_true rfl⟩) (mq_preS hK hZ hS hA hM (trivial) _) rfl rfl hl.1 rfl (lv_room (Nat.le_of_ble_eq_true rfl)) dX11_addSkill_33 ⟨Nat.le_of_ble_eq_true rfl, Nat.le_of_ble_eq_true rfl⟩) hS (fun r33 g33 H locs p33 hM hS => ?_)
      refine W.widen (k := 0) (n := 0) (Nat.le_of_ble_eq_true rfl) (Nat.le_of_ble_eq_true rfl) ?_
      obtain ⟨rfl, rfl⟩ := p33
      rw [show inB uc 0 500 = vI uc 501 from inB_vI (n := 501) (by decide)]
      refine lv_if_ne (tgt := 43) hx hb dX11_addSkill_36 (by decide) (fun c_36 => ?_) (fun c_36 => ?_)
      · replace c_36 : ¬ zb (vI uc 501) = 0 := c_36
        rw [zb_n0] at c_36
        obtain ⟨ga, hga, rfl⟩ := vI_ex1 c_36
        refine lv_iconst (v := 0) hx hb dX11_addSkill_43 (by decide) ?_
        refine lv_iconst (v := 1) hx hb dX11_addSkill_44 (by decide) ?_
        refine mq_calli (va_runV (As := [.int 0, .int 1]) (rest := []) ⟨hx, hb, hml, hown, hts⟩ (c_X11_fails l G A f_1 (ad 20 0 0) false 1 0 (nI (aD S2)) (ad 21 0 0) (ad 23 0 0)) (cwV 2 hts gX11_addSkill_X11_fails rfl rfl rfl (by decide +kernel) ⟨Nat.le_of_ble_eq_true rfl, Nat.le_of_ble_eq_true rfl⟩) (mq_preV hK hZ hS hA hM (q := (RX11, TX11, 4)) h_3 rfl (h_3) _) rfl rfl hl.1 rfl (lv_room (Nat.le_of_ble_eq_true rfl)) dX11_addSkill_45 ⟨Nat.le_of_ble_eq_true rfl, Nat.le_of_ble_eq_true rfl⟩) hS (fun r45 g45 H locs p45 hM hS => ?_)
        refine W.widen (k := 0) (n := 0) (Nat.le_of_ble_eq_true rfl) (Nat.le_of_ble_eq_true rfl) ?_
        obtain ⟨hg, hr9⟩ := p45
        obtain rfl := fl_0 h_3 hg
        rw [hr9, show zb (decide (fT false 0 1 ≠ 0)) = 0 from by decide]
        refine lv_if_ne (tgt := 76) hx hb dX11_addSkill_48 (by decide) (fun c_48 => absurd c_48 (by decide)) (fun c_48 => ?_)
        have y21_297 := hR1.1 _ _ _ _ (t21)
        refine lv_aload_n hx hb dX11_addSkill_51 rfl (lv_at hl 0 rfl) ?_
        refine lv_aload_n hx hb dX11_addSkill_52 rfl (lv_at hl 0 rfl) ?_
        refine mq_get (ci := 16) (v := .ref (ad 21 0 0)) (C := RX11) (T := TX11) (N := 4) hx hb hts nX11 hown hK hM h_3 rfl 2 (by decide) w1 (fun _ h9 => h9) rfl dX11_addSkill_53 ?_
        refine mq_calli (va_runV (As := []) (rest := [.ref (ad 20 0 0)]) ⟨hx, hb, hml, hown, hts⟩ (c_Jx4a65c_size_8abf5 l G A f_1 (ad 21 0 0) (yS Y).1 (lsD G (yS Y).2 (ad 22 0 0)) (aN S2)) (cwV 0 hts gX11_addSkill_Jx4a65c_size_8abf5 rfl rfl rfl (by decide +kernel) ⟨Nat.le_of_ble_eq_true rfl, Nat.le_of_ble_eq_true rfl⟩) (mq_preV hK hZ hS hA hM (q := (RJx4a65c, TJx4a65c, 3)) y21_297 rfl (y21_297) _) rfl rfl hl.1 rfl (lv_room (Nat.le_of_ble_eq_true rfl)) dX11_addSkill_56 ⟨Nat.le_of_ble_eq_true rfl, Nat.le_of_ble_eq_true rfl⟩) hS (fun r56 g56 H locs p56 hM hS => ?_)
        refine W.widen (k := 0) (n := 0) (Nat.le_of_ble_eq_true rfl) (Nat.le_of_ble_eq_true rfl) ?_
        obtain ⟨rfl, rfl⟩ := p56
        refine lv_bipush (v := 10) hx hb dX11_addSkill_59 (by decide) ?_
        refine lv_icmp_ne (tgt := 68) hx hb dX11_addSkill_61 (by decide) (fun c_61 => ?_) (fun c_61 => ?_)
        · replace c_61 : ¬ nI (aN S2) = nI 10 := c_61
          rw [nI_eq (by omega) (by omega)] at c_61
          refine lv_iconst (v := 0) hx hb dX11_addSkill_68 (by decide) ?_
          refine lv_iconst (v := 2) hx hb dX11_addSkill_69 (by decide) ?_
          refine mq_calli (va_runV (As := [.int 0, .int 2]) (rest := []) ⟨hx, hb, hml, hown, hts⟩ (c_X11_fails l G A f_1 (ad 20 0 0) false 2 0 (nI (aD S2)) (ad 21 0 0) (ad 23 0 0)) (cwV 2 hts gX11_addSkill_X11_fails rfl rfl rfl (by decide +kernel) ⟨Nat.le_of_ble_eq_true rfl, Nat.le_of_ble_eq_true rfl⟩) (mq_preV hK hZ hS hA hM (q := (RX11, TX11, 4)) h_3 rfl (h_3) _) rfl rfl hl.1 rfl (lv_room (Nat.le_of_ble_eq_true rfl)) dX11_addSkill_70 ⟨Nat.le_of_ble_eq_true rfl, Nat.le_of_ble_eq_true rfl⟩) hS (fun r70 g70 H locs p70 hM hS => ?_)
          refine W.widen (k := 0) (n := 0) (Nat.le_of_ble_eq_true rfl) (Nat.le_of_ble_eq_true rfl) ?_
          obtain ⟨hg, hr9⟩ := p70
          obtain rfl := fl_0 h_3 hg
          rw [hr9, show zb (decide (fT false 0 2 ≠ 0)) = 0 from by decide]
          refine lv_if_eq (tgt := 78) hx hb dX11_addSkill_73 (by decide) (fun c_73 => ?_) (fun c_73 => absurd c_73 (by decide))
          have hroom : aN S2 < 10 := by omega
          refine mq_new (ci := 15) (fs := [.int 0, .int 0, .int 0, .null]) (C := RX10) (T := TX10) (N := 4) hx hb hts nX10 tyX10 tyX10_ok hown w2 w3 w4 hK hM hS hA rfl (fun j hj => by rcases (show j = 0 ∨ j = 1 ∨ j = 2 ∨ j = 3 by omega) with rfl | rfl | rfl | rfl <;> rfl) (Nat.le_of_ble_eq_true rfl) (Nat.le_of_ble_eq_true rfl) dX11_addSkill_78 (fun q78 f_4 H hq78 e_5 hM hS => ?_)
          refine W.widen (k := 1) (n := 4) (Nat.le_of_ble_eq_true rfl) (Nat.le_of_ble_eq_true rfl) ?_
          have h_6 : f_4 (ad 20 0 0) = some (.inr (16, [.int 0, .int (nI (aD S2)), .ref (ad 21 0 0), .ref (ad 23 0 0)])) := mq_n e_5 h_3 (mq_neN h_3 hq78)
          have h_7 : f_4 (ad 21 0 0) = some (.inr (4, [.int ((yS Y).1), .ref (lsD G (yS Y).2 (ad 22 0 0)), .int (nI (aN S2))])) := mq_n e_5 y21_297 (mq_neN y21_297 hq78)
          have h_8 : f_4 q78 = some (.inr (15, [.int 0, .int 0, .int 0, .null])) := mq_s e_5
          refine lv_dup hx hb dX11_addSkill_81 rfl ?_
          refine mq_callv (va_runIN (As := []) (rest := [.ref q78]) ⟨hx, hb, hml, hown, hts⟩ (c_X10_init l G A f_4 q78) (⟨va_cnB 0 hts gX11_addSkill_X10_init_n54 rfl rfl rfl (mq_nestM (host := "TutorlightModel") hZ (by decide +kernel)) w4 (by decide +kernel) ⟨Nat.le_of_ble_eq_true rfl, Nat.le_of_ble_eq_true rfl⟩, rfl, w5⟩) (mq_preS hK hZ hS hA hM (h_8) _) rfl rfl hl.1 rfl (lv_room (Nat.le_of_ble_eq_true rfl)) dX11_addSkill_82 ⟨Nat.le_of_ble_eq_true rfl, Nat.le_of_ble_eq_true rfl⟩) hS (fun g82 H locs p82 hM hS => ?_)
          refine W.widen (k := 2) (n := 14) (Nat.le_of_ble_eq_true rfl) (Nat.le_of_ble_eq_true rfl) ?_
          obtain ⟨w82, hw82, hn82, e82⟩ := p82
          obtain ⟨fw82, ew82⟩ : ∃ h, h = mq_up f_4 w82 (cBo G 0) := ⟨_, rfl⟩
          rw [← ew82] at e82
          have h_9 : fw82 (ad 20 0 0) = some (.inr (16, [.int 0, .int (nI (aD S2)), .ref (ad 21 0 0), .ref (ad 23 0 0)])) := mq_n ew82 h_6 (mq_neN h_6 hw82)
          have h_10 : fw82 (ad 21 0 0) = some (.inr (4, [.int ((yS Y).1), .ref (lsD G (yS Y).2 (ad 22 0 0)), .int (nI (aN S2))])) := mq_n ew82 h_7 (mq_neN h_7 hw82)
          have h_11 : fw82 q78 = some (.inr (15, [.int 0, .int 0, .int 0, .null])) := mq_n ew82 h_8 (mq_neN h_8 hw82)
          have h_12 : fw82 w82 = some (.inl (G.2 2, 10, .inl (fun t => zb ((0 : Nat).testBit t)))) := mq_s ew82
          have h_13 : g82 (ad 20 0 0) = some (.inr (16, [.int 0, .int (nI (aD S2)), .ref (ad 21 0 0), .ref (ad 23 0 0)])) := mq_n e82 h_9 (mq_neN h_3 hq78)
          have h_14 : g82 (ad 21 0 0) = some (.inr (4, [.int ((yS Y).1), .ref (lsD G (yS Y).2 (ad 22 0 0)), .int (nI (aN S2))])) := mq_n e82 h_10 (mq_neN y21_297 hq78)
          have h_15 : g82 w82 = some (.inl (G.2 2, 10, .inl (fun t => zb ((0 : Nat).testBit t)))) := mq_n e82 h_12 (Ne.symm (mq_neN h_8 hw82))
          have h_16 : g82 q78 = some (.inr (15, [.int 0, .int 0, .int 0, .ref w82])) := mq_s e82
          refine lv_astore (lv' := [(4, .ref q78), (0, .ref (ad 20 0 0)), (1, .int (nI gu)), (2, .int (nI sl)), (3, .int (nI ga))]) hx hb dX11_addSkill_85 hl (by decide) rfl (fun ls hl => ?_)
          refine lv_aload hx hb dX11_addSkill_87 (lv_at hl 0 rfl) ?_
          refine lv_iload_n hx hb dX11_addSkill_89 rfl (lv_at hl 2 rfl) ?_
          refine mq_put (ci := 15) (v := .int (nI gu)) (ty := .int) (C := RX10) (T := TX10) (N := 4) (fs' := [.int (nI gu), .int 0, .int 0, .ref w82]) hx hb hts nX10 tyX10 tyX10_ok nmX10 hown hK hM hS h_16 rfl 0 (by decide) w6 (fun _ h9 => h9) rfl (by decide +kernel) rfl rfl (Nat.le_of_ble_eq_true rfl) dX11_addSkill_90 rfl (fun f_17 H locs e_18 hM hS => ?_)
          have h_19 : f_17 (ad 20 0 0) = some (.inr (16, [.int 0, .int (nI (aD S2)), .ref (ad 21 0 0), .ref (ad 23 0 0)])) := mq_n e_18 h_13 (mq_neN h_3 hq78)
          have h_20 : f_17 (ad 21 0 0) = some (.inr (4, [.int ((yS Y).1), .ref (lsD G (yS Y).2 (ad 22 0 0)), .int (nI (aN S2))])) := mq_n e_18 h_14 (mq_neN y21_297 hq78)
          have h_21 : f_17 w82 = some (.inl (G.2 2, 10, .inl (fun t => zb ((0 : Nat).testBit t)))) := mq_n e_18 h_15 (Ne.symm (mq_neN h_8 hw82))
          have h_22 : f_17 q78 = some (.inr (15, [.int (nI gu), .int 0, .int 0, .ref w82])) := mq_s e_18
          refine lv_aload hx hb dX11_addSkill_93 (lv_at hl 0 rfl) ?_
          refine lv_iload_n hx hb dX11_addSkill_95 rfl (lv_at hl 3 rfl) ?_
          refine mq_put (ci := 15) (v := .int (nI sl)) (ty := .int) (C := RX10) (T := TX10) (N := 4) (fs' := [.int (nI gu), .int (nI sl), .int 0, .ref w82]) hx hb hts nX10 tyX10 tyX10_ok nmX10 hown hK hM hS h_22 rfl 1 (by decide) w7 (fun _ h9 => h9) rfl (by decide +kernel) rfl rfl (Nat.le_of_ble_eq_true rfl) dX11_addSkill_96 rfl (fun f_23 H locs e_24 hM hS => ?_)
          have h_25 : f_23 (ad 20 0 0) = some (.inr (16, [.int 0, .int (nI (aD S2)), .ref (ad 21 0 0), .ref (ad 23 0 0)])) := mq_n e_24 h_19 (mq_neN h_3 hq78)
          have h_26 : f_23 (ad 21 0 0) = some (.inr (4, [.int ((yS Y).1), .ref (lsD G (yS Y).2 (ad 22 0 0)), .int (nI (aN S2))])) := mq_n e_24 h_20 (mq_neN y21_297 hq78)
          have h_27 : f_23 w82 = some (.inl (G.2 2, 10, .inl (fun t => zb ((0 : Nat).testBit t)))) := mq_n e_24 h_21 (Ne.symm (mq_neN h_8 hw82))
          have h_28 : f_23 q78 = some (.inr (15, [.int (nI gu), .int (nI sl), .int 0, .ref w82])) := mq_s e_24
          refine lv_aload hx hb dX11_addSkill_99 (lv_at hl 0 rfl) ?_
          refine lv_iload_n hx hb dX11_addSkill_101 rfl (lv_at hl 4 rfl) ?_
          refine mq_put (ci := 15) (v := .int (nI ga)) (ty := .int) (C := RX10) (T := TX10) (N := 4) (fs' := [.int (nI gu), .int (nI sl), .int (nI ga), .ref w82]) hx hb hts nX10 tyX10 tyX10_ok nmX10 hown hK hM hS h_28 rfl 2 (by decide) w8 (fun _ h9 => h9) rfl (by decide +kernel) rfl rfl (Nat.le_of_ble_eq_true rfl) dX11_addSkill_102 rfl (fun f_29 H locs e_30 hM hS => ?_)
          have h_31 : f_29 (ad 20 0 0) = some (.inr (16, [.int 0, .int (nI (aD S2)), .ref (ad 21 0 0), .ref (ad 23 0 0)])) := mq_n e_30 h_25 (mq_neN h_3 hq78)
          have h_32 : f_29 (ad 21 0 0) = some (.inr (4, [.int ((yS Y).1), .ref (lsD G (yS Y).2 (ad 22 0 0)), .int (nI (aN S2))])) := mq_n e_30 h_26 (mq_neN y21_297 hq78)
          have h_33 : f_29 w82 = some (.inl (G.2 2, 10, .inl (fun t => zb ((0 : Nat).testBit t)))) := mq_n e_30 h_27 (Ne.symm (mq_neN h_8 hw82))
          have h_34 : f_29 q78 = some (.inr (15, [.int (nI gu), .int (nI sl), .int (nI ga), .ref w82])) := mq_s e_30
          refine lv_aload_n hx hb dX11_addSkill_105 rfl (lv_at hl 1 rfl) ?_
          refine mq_get (ci := 16) (v := .ref (ad 21 0 0)) (C := RX11) (T := TX11) (N := 4) hx hb hts nX11 hown hK hM h_31 rfl 2 (by decide) w1 (fun _ h9 => h9) rfl dX11_addSkill_106 ?_
          refine lv_aload hx hb dX11_addSkill_109 (lv_at hl 0 rfl) ?_
          have hkk : ∀ y e, f_1 y = some e → f_29 y = some e := fun y9 e9 he => by have n2 := mq_neN he hq78; have kp0 := mq_n e_5 he (mq_neN he hq78); have kp1 := mq_n ew82 kp0 (mq_neN kp0 hw82); have kp2 := mq_n e82 kp1 (n2); have kp3 := mq_n e_18 kp2 (n2); have kp4 := mq_n e_24 kp3 (n2); have kp5 := mq_n e_30 kp4 (n2); exact kp5
          have hnw := mq_nn e_5 hw82
          have hfs : f_29 = mq_up (mq_up f_1 w82 (cBo G 0)) q78 (.inr (15, [.int (nI gu), .int (nI sl), .int (nI ga), .ref w82])) := by rw [e_30, e_24, e_18, e82, ew82, e_5]; simp only [mq_uu]; exact mq_ucu hnw.2.symm
          refine mq_calli (va_runV (As := [.ref q78]) (rest := []) ⟨hx, hb, hml, hown, hts⟩ (c_Jx4a65c_add_9ea2d l G A f_29 (ad 21 0 0) q78 (yS Y).1 (yS Y).2 (ad 22 0 0) (aN S2) (fun i => ad 25 i 0) 10) (cwV 1 hts gX11_addSkill_Jx4a65c_add_9ea2d rfl rfl rfl (by decide +kernel) ⟨Nat.le_of_ble_eq_true rfl, Nat.le_of_ble_eq_true rfl⟩) (mq_preV hK hZ hS hA hM (q := (RJx4a65c, TJx4a65c, 3)) h_32 rfl (⟨h_32, fun q => hkk _ _ (hR1.1 _ _ _ _ (t22 q)), hns, by omega, by omega, fun q => (by have h9 : (yS Y).2 = 0 := (by omega); rw [h9]; decide), fun i hi => Or.inl ⟨15, _, _, hkk _ _ (hR1.1 _ _ _ _ (t25 (j := i) hi)), rfl, by decide⟩, Or.inl ⟨15, _, _, h_34, rfl, by decide⟩⟩) _) rfl rfl hl.1 rfl (lv_room (Nat.le_of_ble_eq_true rfl)) dX11_addSkill_111 ⟨Nat.le_of_ble_eq_true rfl, Nat.le_of_ble_eq_true rfl⟩) hS (fun r111 g111 H locs p111 hM hS => ?_)
          refine W.widen (k := 3) (n := 24) (Nat.le_of_ble_eq_true rfl) (Nat.le_of_ble_eq_true rfl) ?_
          obtain ⟨ha111, rfl⟩ := p111
          obtain ⟨r9, cap9, hcap9, hR5⟩ := WR_asR (gu := gu) (sl := sl) (ga := ga) hR1 ⟨hns, hnc⟩ hroom hnw.1 hq78 hnw.2.symm hfs ha111
          have z20 : g111 (ad 20 0 0) = some (.inr (16, [.int 0, .int (nI (aD S2)), .ref (ad 21 0 0), .ref (ad 23 0 0)])) := hR5.1 20 0 0 _ t20
          have z21 := hR5.1 21 0 0 _ t21
          refine lv_pop hx hb dX11_addSkill_114 rfl ?_
          refine lv_aload_n hx hb dX11_addSkill_115 rfl (lv_at hl 1 rfl) ?_
          refine mq_get (ci := 16) (v := .ref (ad 21 0 0)) (C := RX11) (T := TX11) (N := 4) hx hb hts nX11 hown hK hM z20 rfl 2 (by decide) w1 (fun _ h9 => h9) rfl dX11_addSkill_116 ?_
          refine mq_calli (va_runV (As := []) (rest := []) ⟨hx, hb, hml, hown, hts⟩ (c_Jx4a65c_size_8abf5 l G A g111 (ad 21 0 0) ((yS Y).1 + 1) (lsD G cap9 r9) (aN S2 + 1)) (cwV 0 hts gX11_addSkill_Jx4a65c_size_8abf5 rfl rfl rfl (by decide +kernel) ⟨Nat.le_of_ble_eq_true rfl, Nat.le_of_ble_eq_true rfl⟩) (mq_preV hK hZ hS hA hM (q := (RJx4a65c, TJx4a65c, 3)) z21 rfl (z21) _) rfl rfl hl.1 rfl (lv_room (Nat.le_of_ble_eq_true rfl)) dX11_addSkill_119 ⟨Nat.le_of_ble_eq_true rfl, Nat.le_of_ble_eq_true rfl⟩) hS (fun r119 g119 H locs p119 hM hS => ?_)
          refine W.widen (k := 3) (n := 24) (Nat.le_of_ble_eq_true rfl) (Nat.le_of_ble_eq_true rfl) ?_
          obtain ⟨rfl, rfl⟩ := p119
          refine lv_iconst (v := 1) hx hb dX11_addSkill_122 (by decide) ?_
          refine lv_isub hx hb dX11_addSkill_123 ?_
          rw [show (nI (aN S2 + 1)) - 1 = nI ((aN S2 + 1) - 1) from pk_sub (a := aN S2 + 1) (b := 1) (by omega)]
          exact mq_iret (v := nI ((aN S2 + 1) - 1)) hx hb hr hlocks hM hS (⟨0, nsSkill S2 gu sl ga, ySn Y ((yS Y).1 + 1, cap9), _, (spSkill_y (show gu ≤ 500 by omega) (show sl ≤ 500 by omega) (show ga ≤ 500 by omega)).trans (if_pos hroom), hR5, ⟨hcap9, hO.2.2⟩, ⟨rfl, rfl, rfl, rfl⟩⟩) dX11_addSkill_124
        · replace c_61 : nI (aN S2) = nI 10 := c_61
          rw [nI_eq (by omega) (by omega)] at c_61
          refine lv_iconst (v := 1) hx hb dX11_addSkill_64 (by decide) ?_
          refine lv_goto (tgt := 69) hx hb dX11_addSkill_65 (by decide) ?_
          refine lv_iconst (v := 2) hx hb dX11_addSkill_69 (by decide) ?_
          refine mq_calli (va_runV (As := [.int 1, .int 2]) (rest := []) ⟨hx, hb, hml, hown, hts⟩ (c_X11_fails l G A f_1 (ad 20 0 0) true 2 0 (nI (aD S2)) (ad 21 0 0) (ad 23 0 0)) (cwV 2 hts gX11_addSkill_X11_fails rfl rfl rfl (by decide +kernel) ⟨Nat.le_of_ble_eq_true rfl, Nat.le_of_ble_eq_true rfl⟩) (mq_preV hK hZ hS hA hM (q := (RX11, TX11, 4)) h_3 rfl (h_3) _) rfl rfl hl.1 rfl (lv_room (Nat.le_of_ble_eq_true rfl)) dX11_addSkill_70 ⟨Nat.le_of_ble_eq_true rfl, Nat.le_of_ble_eq_true rfl⟩) hS (fun r70 g70 H locs p70 hM hS => ?_)
          refine W.widen (k := 0) (n := 0) (Nat.le_of_ble_eq_true rfl) (Nat.le_of_ble_eq_true rfl) ?_
          obtain ⟨hg, hr9⟩ := p70
          rw [hr9, show zb (decide (fT true 0 2 ≠ 0)) = 1 from by decide]
          refine lv_if_eq (tgt := 78) hx hb dX11_addSkill_73 (by decide) (fun c_73 => absurd c_73 (by decide)) (fun c_73 => ?_)
          refine lv_iconst (v := 0) hx hb dX11_addSkill_76 (by decide) ?_
          refine W.widen (k := 3) (n := 24) (Nat.le_of_ble_eq_true rfl) (Nat.le_of_ble_eq_true rfl) ?_
          exact mq_iret (v := 0) hx hb hr hlocks hM hS (⟨2, S2, Y, ad, (spSkill_y (show gu ≤ 500 by omega) (show sl ≤ 500 by omega) (show ga ≤ 500 by omega)).trans (if_neg (by omega)), (by have q9 := WR_yt hR1 hg; exact q9), hO.2, adK_id⟩) dX11_addSkill_77
      · replace c_36 : zb (vI uc 501) = 0 := c_36
        rw [zb_0] at c_36
        refine lv_iconst (v := 1) hx hb dX11_addSkill_39 (by decide) ?_
        refine lv_goto (tgt := 44) hx hb dX11_addSkill_40 (by decide) ?_
        refine lv_iconst (v := 1) hx hb dX11_addSkill_44 (by decide) ?_
        refine mq_calli (va_runV (As := [.int 1, .int 1]) (rest := []) ⟨hx, hb, hml, hown, hts⟩ (c_X11_fails l G A f_1 (ad 20 0 0) true 1 0 (nI (aD S2)) (ad 21 0 0) (ad 23 0 0)) (cwV 2 hts gX11_addSkill_X11_fails rfl rfl rfl (by decide +kernel) ⟨Nat.le_of_ble_eq_true rfl, Nat.le_of_ble_eq_true rfl⟩) (mq_preV hK hZ hS hA hM (q := (RX11, TX11, 4)) h_3 rfl (h_3) _) rfl rfl hl.1 rfl (lv_room (Nat.le_of_ble_eq_true rfl)) dX11_addSkill_45 ⟨Nat.le_of_ble_eq_true rfl, Nat.le_of_ble_eq_true rfl⟩) hS (fun r45 g45 H locs p45 hM hS => ?_)
        refine W.widen (k := 0) (n := 0) (Nat.le_of_ble_eq_true rfl) (Nat.le_of_ble_eq_true rfl) ?_
        obtain ⟨hg, hr9⟩ := p45
        rw [hr9, show zb (decide (fT true 0 1 ≠ 0)) = 1 from by decide]
        refine lv_if_ne (tgt := 76) hx hb dX11_addSkill_48 (by decide) (fun c_48 => ?_) (fun c_48 => absurd c_48 (by decide))
        refine lv_iconst (v := 0) hx hb dX11_addSkill_76 (by decide) ?_
        refine W.widen (k := 3) (n := 24) (Nat.le_of_ble_eq_true rfl) (Nat.le_of_ble_eq_true rfl) ?_
        exact mq_iret (v := 0) hx hb hr hlocks hM hS (⟨1, S2, Y, ad, if_neg (by rw [Bool.not_eq_true]; rw [vI_nI hgu (by decide), vI_nI hsl (by decide), c_36]; rfl), (by have q9 := WR_yt hR1 hg; exact q9), hO.2, adK_id⟩) dX11_addSkill_77
