/-! THE REFERENCE: a learner's exercise, faults -/
theorem fl_y {f g : mq_F} {x : Nat} {d : Int32} {a b : Nat} {e r : Int32} {bo : Bool} (h : f x = some (.inr (16, [.int 0, .int d, .ref a, .ref b]))) (hp : g = mq_up f x (.inr (16, [.int (fT (!bo) 0 e), .int d, .ref a, .ref b])) ∧ r = zb (decide (fT (!bo) 0 e ≠ 0))) (he : e ≠ 0) (hr : r = 0) : bo = true ∧ f = g := by
  cases bo with
  | true => exact ⟨rfl, fl_0 h hp.1⟩
  | false =>
    rw [hp.2, zb_0] at hr
    exact absurd (show fT (!false) 0 e = 0 from by simpa using hr) (by rw [show fT (!false) 0 e = e from if_pos ⟨rfl, rfl⟩]; exact he)
theorem fl_n {f g : mq_F} {x : Nat} {d : Int32} {a b : Nat} {e r : Int32} {bo : Bool} (hp : g = mq_up f x (.inr (16, [.int (fT (!bo) 0 e), .int d, .ref a, .ref b])) ∧ r = zb (decide (fT (!bo) 0 e ≠ 0))) (hr : ¬ r = 0) : bo = false ∧ g = mq_up f x (.inr (16, [.int e, .int d, .ref a, .ref b])) := by
  cases bo with
  | false => exact ⟨rfl, hp.1⟩
  | true => exact absurd hp.2 hr
def nxP (G : mq_G) (f g : mq_F) (ad : AD) (S : AT) (X : CX) (S2 : AT) (Y : MX) (O : OX) (j : Nat) (code r : Int32) : Prop := (∃ e, lEx (aE S2 j) = some e ∧ f = g ∧ r = 0) ∨ (lEx (aE S2 j) = none ∧ r = zb (decide (code ≠ 0)) ∧ WR G g ad S X S2 (yThr Y code) O)
theorem nx_0 {G : mq_G} {f g : mq_F} {ad : AD} {S : AT} {X : CX} {S2 : AT} {Y : MX} {O : OX} {j : Nat} {code r : Int32} (h : nxP G f g ad S X S2 Y O j code r) (hc : zb (decide (code ≠ 0)) = 1) (hr : r = 0) : ∃ e, lEx (aE S2 j) = some e ∧ f = g := h.elim (fun ⟨e, q⟩ => ⟨e, q.1, q.2.1⟩) fun q => absurd (q.2.1.symm.trans hr) (by rw [hc]; decide)
theorem nx_1 {G : mq_G} {f g : mq_F} {ad : AD} {S : AT} {X : CX} {S2 : AT} {Y : MX} {O : OX} {j : Nat} {code r : Int32} (h : nxP G f g ad S X S2 Y O j code r) (hr : ¬ r = 0) : lEx (aE S2 j) = none ∧ WR G g ad S X S2 (yThr Y code) O := h.elim (fun ⟨_, q⟩ => absurd q.2.2 hr) fun q => ⟨q.1, q.2.2⟩

set_option maxHeartbeats 4000000 in
set_option maxRecDepth 100000 in
theorem c_X11_noExercise (l : Launch) (G : mq_G) (A : Nat → Prop) (f : mq_F) (ad : AD) (S : AT) (X : CX) (S2 : AT) (Y : MX) (O : OX) (T : Nat) (j : Nat) (code : Int32) : Met l yX11_noExercise wsX11_noExercise ({ frames := 10, cells := 0, slots := 0, locals := 184 } : Room) (mq_Pc G A f (WR G f ad S X S2 Y O ∧ mOK S2 Y T ∧ j < aL S2 ∧ yT Y = 0) [.ref (ad 20 0 0), .int (nI j), .int code]) (mq_Qi G A (fun r g => nxP G f g ad S X S2 Y O j code r)) 0 0 A := by
  refine Met.ofW (cc := cX11_noExercise) (maxL := 3) (ret := (some .boolean)) (by decide) rfl ?_
  intro p e s m args below meth c s₁ B hml hv
  obtain ⟨rfl, ⟨hK, hZ, hM, hA⟩, hp⟩ := hv
  have hx := B.exec
  have hb := B.bytes
  have hr := B.returns
  have hts := atoms_spec (ws := wsX11_noExercise) B.pre
  have hown : s.vm.findClass RX11 = some m.cls := findClass_of_methodNamed B.named
  have hlocks := B.notSynchronized
  have hS : va_S A s.heap s.heap [] := va_S.rf
  have hl := lv_entry ([.ref (ad 20 0 0), .int (nI j), .int code]) (n := 3) (Nat.le_of_ble_eq_true rfl)
  rw [lg_entry_eq]
  generalize (lg_sl ([.ref (ad 20 0 0), .int (nI j), .int code]) ++ List.replicate (3 - (lg_sl ([.ref (ad 20 0 0), .int (nI j), .int code])).length) Slot.unset).toArray = ls at hl ⊢
  have hl : lv_has ls 3 [(0, .ref (ad 20 0 0)), (1, .int (nI j)), (2, .int code)] := hl
  have w0 := hts (.fieldLink RX11 16 "TutorlightModel" "learners" "Ljava/util/ArrayList;") (List.mem_of_getElem? (i := 1) rfl)
  have w1 := hts (.classLink RX11 46 "TutorlightModel$Learner") (List.mem_of_getElem? (i := 2) rfl)
  have w2 := hts (.fieldLink RX11 186 "TutorlightModel$Learner" "equation" "[I") (List.mem_of_getElem? (i := 3) rfl)
  have nX11 : ∀ w ∈ wsX110, w ∈ wsX11_noExercise := fun _ h => List.mem_cons_of_mem _ (List.mem_append_left _ (List.mem_append_left _ (List.mem_append_right _ h)))
  have nX9 : ∀ w ∈ wsX90, w ∈ wsX11_noExercise := fun _ h => List.mem_cons_of_mem _ (List.mem_append_left _ (List.mem_append_right _ h))
  obtain ⟨hR, hO, hj, hy⟩ := hp
  obtain ⟨⟨X9, ⟨hn, hl4, hd2, hT⟩, hsk, hma, hdc, hle, -⟩, ⟨hns, hnc⟩, ⟨hls, hlc⟩, hac, hmc⟩ := id hO
  have hcl : (yL Y).2 ≠ 0 := by omega
  have y20_171 := hR.1 _ _ _ _ (t20)
  have y123_172 := hR.1 _ _ _ _ (t123 hcl)
  have y24_173 := hR.1 _ _ _ _ (t24 hcl)
  have y27_174 := hR.1 _ _ _ _ (t27 (j := j) hj)
  refine lv_aload_n hx hb dX11_noExercise_0 rfl (lv_at hl 0 rfl) ?_
  refine lv_aload_n hx hb dX11_noExercise_1 rfl (lv_at hl 0 rfl) ?_
  refine mq_get (ci := 16) (v := .ref (ad 23 0 0)) (C := RX11) (T := TX11) (N := 4) hx hb hts nX11 hown hK hM y20_171 rfl 3 (by decide) w0 (fun _ h9 => h9) rfl dX11_noExercise_2 ?_
  refine lv_iload_n hx hb dX11_noExercise_5 rfl (lv_at hl 1 rfl) ?_
  refine mq_callq (va_runV (As := [.int (nI j)]) (rest := [.ref (ad 20 0 0)]) ⟨hx, hb, hml, hown, hts⟩ (c_Jx4a65c_get_915e3 l G A f (ad 23 0 0) (yL Y).1 (ad 24 0 0) (yL Y).2 (aL S2) j (fun i => ad 27 i 0)) (cwV 1 hts gX11_noExercise_Jx4a65c_get_915e3 rfl rfl rfl (by decide +kernel) ⟨Nat.le_of_ble_eq_true rfl, Nat.le_of_ble_eq_true rfl⟩) (mq_preV hK hZ hS hA hM (q := (RJx4a65c, TJx4a65c, 3)) y123_172 rfl (⟨y123_172, y24_173, hj, hls, by omega⟩) _) rfl rfl hl.1 rfl (lv_room (Nat.le_of_ble_eq_true rfl)) dX11_noExercise_6 ⟨Nat.le_of_ble_eq_true rfl, Nat.le_of_ble_eq_true rfl⟩) hS (fun r6 g6 H locs p6 hM hS => ?_)
  refine W.widen (k := 0) (n := 0) (Nat.le_of_ble_eq_true rfl) (Nat.le_of_ble_eq_true rfl) ?_
  obtain ⟨rfl, rfl⟩ := p6
  refine mq_castG hx hb hown w1 (mq_recv hK hM y27_174 rfl) dX11_noExercise_9 ?_
  refine mq_get (ci := 14) (v := va_rf (oMap (lEx (aE S2 j)) (ad 35 j 0))) (C := RX9) (T := TX9) (N := 8) hx hb hts nX9 hown hK hM y27_174 rfl 2 (by decide) w2 (fun _ h9 => h9) rfl dX11_noExercise_12 ?_
  refine mq_ifnonnullq (tgt := 22) hx hb dX11_noExercise_15 (by decide) (fun c_15 => ?_) (fun a9 c_15 => ?_)
  · replace c_15 := oMap_none c_15
    refine lv_iconst (v := 1) hx hb dX11_noExercise_18 (by decide) ?_
    refine lv_goto (tgt := 23) hx hb dX11_noExercise_19 (by decide) ?_
    refine lv_iload_n hx hb dX11_noExercise_23 rfl (lv_at hl 2 rfl) ?_
    refine mq_calli (va_runV (As := [.int 1, .int code]) (rest := []) ⟨hx, hb, hml, hown, hts⟩ (c_X11_fails l G A f (ad 20 0 0) true code (yT Y) (nI (aD S2)) (ad 21 0 0) (ad 23 0 0)) (cwV 2 hts gX11_noExercise_X11_fails rfl rfl rfl (by decide +kernel) ⟨Nat.le_of_ble_eq_true rfl, Nat.le_of_ble_eq_true rfl⟩) (mq_preV hK hZ hS hA hM (q := (RX11, TX11, 4)) y20_171 rfl (y20_171) _) rfl rfl hl.1 rfl (lv_room (Nat.le_of_ble_eq_true rfl)) dX11_noExercise_24 ⟨Nat.le_of_ble_eq_true rfl, Nat.le_of_ble_eq_true rfl⟩) hS (fun r24 g24 H locs p24 hM hS => ?_)
    refine W.widen (k := 0) (n := 0) (Nat.le_of_ble_eq_true rfl) (Nat.le_of_ble_eq_true rfl) ?_
    obtain ⟨hg, hr9⟩ := p24
    exact mq_zret (v := r24) hx hb hr (by rw [hr9]; exact zb_nar _) hlocks hM hS (Or.inr ⟨c_15, by rw [hr9, show fT true (yT Y) code = code from if_pos ⟨rfl, hy⟩], by rw [show fT true (yT Y) code = code from if_pos ⟨rfl, hy⟩] at hg; exact WR_yt hR hg⟩) dX11_noExercise_27
  · obtain ⟨ex9, c_15⟩ := oMap_some c_15
    refine lv_iconst (v := 0) hx hb dX11_noExercise_22 (by decide) ?_
    refine lv_iload_n hx hb dX11_noExercise_23 rfl (lv_at hl 2 rfl) ?_
    refine mq_calli (va_runV (As := [.int 0, .int code]) (rest := []) ⟨hx, hb, hml, hown, hts⟩ (c_X11_fails l G A f (ad 20 0 0) false code (yT Y) (nI (aD S2)) (ad 21 0 0) (ad 23 0 0)) (cwV 2 hts gX11_noExercise_X11_fails rfl rfl rfl (by decide +kernel) ⟨Nat.le_of_ble_eq_true rfl, Nat.le_of_ble_eq_true rfl⟩) (mq_preV hK hZ hS hA hM (q := (RX11, TX11, 4)) y20_171 rfl (y20_171) _) rfl rfl hl.1 rfl (lv_room (Nat.le_of_ble_eq_true rfl)) dX11_noExercise_24 ⟨Nat.le_of_ble_eq_true rfl, Nat.le_of_ble_eq_true rfl⟩) hS (fun r24 g24 H locs p24 hM hS => ?_)
    refine W.widen (k := 0) (n := 0) (Nat.le_of_ble_eq_true rfl) (Nat.le_of_ble_eq_true rfl) ?_
    obtain ⟨hg, hr9⟩ := p24
    exact mq_zret (v := r24) hx hb hr (by rw [hr9]; exact zb_nar _) hlocks hM hS (Or.inl ⟨ex9, c_15, by rw [hg]; exact (mq_id y20_171).symm, by rw [hr9, show fT false (yT Y) code = 0 from hy]; rfl⟩) dX11_noExercise_27

set_option maxHeartbeats 4000000 in
set_option maxRecDepth 100000 in
theorem c_X11_faults (l : Launch) (G : mq_G) (A : Nat → Prop) (f : mq_F) (ad : AD) (S : AT) (X : CX) (S2 : AT) (Y : MX) (O : OX) (T : Nat) (ui : Int32) : Met l yX11_faults wsX11_faults ({ frames := 11, cells := 0, slots := 0, locals := 206 } : Room) (mq_Pc G A f (WR G f ad S X S2 Y O ∧ mOK S2 Y T) [.ref (ad 20 0 0), .int ui]) (mq_Qi G A (fun r g => ∃ c9, spFaults S2 ui = (c9, r) ∧ WR G g ad S X S2 (yThr Y (nI c9)) O)) 0 0 A := by
  refine Met.ofW (cc := cX11_faults) (maxL := 2) (ret := (some .int)) (by decide) rfl ?_
  intro p e s m args below meth c s₁ B hml hv
  obtain ⟨rfl, ⟨hK, hZ, hM, hA⟩, hp⟩ := hv
  have hx := B.exec
  have hb := B.bytes
  have hr := B.returns
  have hts := atoms_spec (ws := wsX11_faults) B.pre
  have hown : s.vm.findClass RX11 = some m.cls := findClass_of_methodNamed B.named
  have hlocks := B.notSynchronized
  have hS : va_S A s.heap s.heap [] := va_S.rf
  have hl := lv_entry ([.ref (ad 20 0 0), .int ui]) (n := 2) (Nat.le_of_ble_eq_true rfl)
  rw [lg_entry_eq]
  generalize (lg_sl ([.ref (ad 20 0 0), .int ui]) ++ List.replicate (2 - (lg_sl ([.ref (ad 20 0 0), .int ui])).length) Slot.unset).toArray = ls at hl ⊢
  have hl : lv_has ls 2 [(0, .ref (ad 20 0 0)), (1, .int ui)] := hl
  have w0 := hts (.fieldLink RX11 19 "TutorlightModel" "thrown" "I") (List.mem_of_getElem? (i := 1) rfl)
  have w1 := hts (.fieldLink RX11 16 "TutorlightModel" "learners" "Ljava/util/ArrayList;") (List.mem_of_getElem? (i := 2) rfl)
  have w2 := hts (.classLink RX11 46 "TutorlightModel$Learner") (List.mem_of_getElem? (i := 3) rfl)
  have w3 := hts (.fieldLink RX11 191 "TutorlightModel$Learner" "wrong" "I") (List.mem_of_getElem? (i := 4) rfl)
  have w4 := hts (.fieldLink RX11 194 "TutorlightModel$Learner" "hints" "I") (List.mem_of_getElem? (i := 5) rfl)
  have nX11 : ∀ w ∈ wsX110, w ∈ wsX11_faults := fun _ h => List.mem_cons_of_mem _ (List.mem_append_left _ (List.mem_append_left _ (List.mem_append_right _ h)))
  have nX9 : ∀ w ∈ wsX90, w ∈ wsX11_faults := fun _ h => List.mem_cons_of_mem _ (List.mem_append_left _ (List.mem_append_right _ h))
  obtain ⟨hR, hO⟩ := hp
  obtain ⟨⟨X9, ⟨hn, hl4, hd2, hT⟩, hsk, hma, hdc, hle, -⟩, ⟨hns, hnc⟩, ⟨hls, hlc⟩, hac, hmc⟩ := id hO
  have y20_179 := hR.1 _ _ _ _ (t20)
  refine lv_aload_n hx hb dX11_faults_0 rfl (lv_at hl 0 rfl) ?_
  refine lv_iconst (v := 0) hx hb dX11_faults_1 (by decide) ?_
  refine mq_put (ci := 16) (v := .int 0) (ty := .int) (C := RX11) (T := TX11) (N := 4) (fs' := [.int 0, .int (nI (aD S2)), .ref (ad 21 0 0), .ref (ad 23 0 0)]) hx hb hts nX11 tyX11 tyX11_ok nmX11 hown hK hM hS y20_179 rfl 0 (by decide) w0 (fun _ h9 => h9) rfl (by decide +kernel) rfl rfl (Nat.le_of_ble_eq_true rfl) dX11_faults_2 rfl (fun f_1 H locs e_2 hM hS => ?_)
  have h_3 : f_1 (ad 20 0 0) = some (.inr (16, [.int 0, .int (nI (aD S2)), .ref (ad 21 0 0), .ref (ad 23 0 0)])) := mq_s e_2
  have hR1 := WR_yt hR e_2
  refine lv_aload_n hx hb dX11_faults_5 rfl (lv_at hl 0 rfl) ?_
  have y23_175 := hR1.1 _ _ _ _ (t23)
  refine lv_aload_n hx hb dX11_faults_6 rfl (lv_at hl 0 rfl) ?_
  refine lv_iload_n hx hb dX11_faults_7 rfl (lv_at hl 1 rfl) ?_
  refine mq_calli (va_runV (As := [.int ui]) (rest := [.ref (ad 20 0 0)]) ⟨hx, hb, hml, hown, hts⟩ (c_X11_noLearner l G A f_1 (ad 20 0 0) (ad 23 0 0) ui 0 (nI (aD S2)) (ad 21 0 0) (lsD G (yL Y).2 (ad 24 0 0)) (aL S2) (yL Y).1) (cwV 1 hts gX11_faults_X11_noLearner rfl rfl rfl (by decide +kernel) ⟨Nat.le_of_ble_eq_true rfl, Nat.le_of_ble_eq_true rfl⟩) (mq_preV hK hZ hS hA hM (q := (RX11, TX11, 4)) h_3 rfl (⟨h_3, y23_175, by omega⟩) _) rfl rfl hl.1 rfl (lv_room (Nat.le_of_ble_eq_true rfl)) dX11_faults_8 ⟨Nat.le_of_ble_eq_true rfl, Nat.le_of_ble_eq_true rfl⟩) hS (fun r8 g8 H locs p8 hM hS => ?_)
  refine W.widen (k := 0) (n := 0) (Nat.le_of_ble_eq_true rfl) (Nat.le_of_ble_eq_true rfl) ?_
  obtain ⟨rfl, rfl⟩ := p8
  refine lv_iconst (v := 1) hx hb dX11_faults_11 (by decide) ?_
  refine mq_calli (va_runV (As := [.int (zb (!vI ui (aL S2))), .int 1]) (rest := []) ⟨hx, hb, hml, hown, hts⟩ (c_X11_fails l G A f_1 (ad 20 0 0) (!vI ui (aL S2)) 1 0 (nI (aD S2)) (ad 21 0 0) (ad 23 0 0)) (cwV 2 hts gX11_faults_X11_fails rfl rfl rfl (by decide +kernel) ⟨Nat.le_of_ble_eq_true rfl, Nat.le_of_ble_eq_true rfl⟩) (mq_preV hK hZ hS hA hM (q := (RX11, TX11, 4)) h_3 rfl (h_3) _) rfl rfl hl.1 rfl (lv_room (Nat.le_of_ble_eq_true rfl)) dX11_faults_12 ⟨Nat.le_of_ble_eq_true rfl, Nat.le_of_ble_eq_true rfl⟩) hS (fun r12 g12 H locs p12 hM hS => ?_)
  refine W.widen (k := 0) (n := 0) (Nat.le_of_ble_eq_true rfl) (Nat.le_of_ble_eq_true rfl) ?_
  refine lv_if_ne (tgt := 27) hx hb dX11_faults_15 (by decide) (fun c_15 => ?_) (fun c_15 => ?_)
  · obtain ⟨hv9, hg⟩ := fl_n p12 c_15
    refine lv_iconst (v := 0) hx hb dX11_faults_27 (by decide) ?_
    exact mq_iret (v := 0) hx hb hr hlocks hM hS (⟨1, spL_n (fun q => absurd (vI_iff.mpr q) (by rw [hv9]; decide)), by have q9 := WR_yt hR1 hg; exact q9⟩) dX11_faults_28
  · obtain ⟨hv9, rfl⟩ := fl_y h_3 p12 (by decide) c_15
    obtain ⟨j, hj, rfl⟩ := vI_ex1 hv9
    refine lv_aload_n hx hb dX11_faults_18 rfl (lv_at hl 0 rfl) ?_
    refine lv_iload_n hx hb dX11_faults_19 rfl (lv_at hl 1 rfl) ?_
    refine lv_iconst (v := 2) hx hb dX11_faults_20 (by decide) ?_
    refine mq_calli (va_runV (As := [.int (nI j), .int 2]) (rest := []) ⟨hx, hb, hml, hown, hts⟩ (c_X11_noExercise l G A f_1 ad S X S2 (yThr Y 0) O T j 2) (cwV 2 hts gX11_faults_X11_noExercise rfl rfl rfl (by decide +kernel) ⟨Nat.le_of_ble_eq_true rfl, Nat.le_of_ble_eq_true rfl⟩) (mq_preV hK hZ hS hA hM (q := (RX11, TX11, 4)) h_3 rfl (⟨hR1, hO.thr 0, hj, rfl⟩) _) rfl rfl hl.1 rfl (lv_room (Nat.le_of_ble_eq_true rfl)) dX11_faults_21 ⟨Nat.le_of_ble_eq_true rfl, Nat.le_of_ble_eq_true rfl⟩) hS (fun r21 g21 H locs p21 hM hS => ?_)
    refine W.widen (k := 0) (n := 0) (Nat.le_of_ble_eq_true rfl) (Nat.le_of_ble_eq_true rfl) ?_
    refine lv_if_eq (tgt := 29) hx hb dX11_faults_24 (by decide) (fun c_24 => ?_) (fun c_24 => ?_)
    · obtain ⟨ex9, he9, rfl⟩ := nx_0 p21 (by decide) c_24
      refine lv_bipush (v := 10) hx hb dX11_faults_29 (by decide) ?_
      have hcl : (yL Y).2 ≠ 0 := by omega
      have y123_176 := hR1.1 _ _ _ _ (t123 hcl)
      have y24_177 := hR1.1 _ _ _ _ (t24 hcl)
      have y27_178 := hR1.1 _ _ _ _ (t27 (j := j) hj)
      refine lv_aload_n hx hb dX11_faults_31 rfl (lv_at hl 0 rfl) ?_
      refine mq_get (ci := 16) (v := .ref (ad 23 0 0)) (C := RX11) (T := TX11) (N := 4) hx hb hts nX11 hown hK hM h_3 rfl 3 (by decide) w1 (fun _ h9 => h9) rfl dX11_faults_32 ?_
      refine lv_iload_n hx hb dX11_faults_35 rfl (lv_at hl 1 rfl) ?_
      refine mq_callq (va_runV (As := [.int (nI j)]) (rest := [.int 10]) ⟨hx, hb, hml, hown, hts⟩ (c_Jx4a65c_get_915e3 l G A f_1 (ad 23 0 0) (yL Y).1 (ad 24 0 0) (yL Y).2 (aL S2) j (fun i => ad 27 i 0)) (cwV 1 hts gX11_faults_Jx4a65c_get_915e3 rfl rfl rfl (by decide +kernel) ⟨Nat.le_of_ble_eq_true rfl, Nat.le_of_ble_eq_true rfl⟩) (mq_preV hK hZ hS hA hM (q := (RJx4a65c, TJx4a65c, 3)) y123_176 rfl (⟨y123_176, y24_177, hj, hls, by omega⟩) _) rfl rfl hl.1 rfl (lv_room (Nat.le_of_ble_eq_true rfl)) dX11_faults_36 ⟨Nat.le_of_ble_eq_true rfl, Nat.le_of_ble_eq_true rfl⟩) hS (fun r36 g36 H locs p36 hM hS => ?_)
      refine W.widen (k := 0) (n := 0) (Nat.le_of_ble_eq_true rfl) (Nat.le_of_ble_eq_true rfl) ?_
      obtain ⟨rfl, rfl⟩ := p36
      refine mq_castG hx hb hown w2 (mq_recv hK hM y27_178 rfl) dX11_faults_39 ?_
      refine mq_get (ci := 14) (v := .int (nI ((exN (lEx (aE S2 j)) (yO Y j)).2.1))) (C := RX9) (T := TX9) (N := 8) hx hb hts nX9 hown hK hM y27_178 rfl 4 (by decide) w3 (fun _ h9 => h9) rfl dX11_faults_42 ?_
      refine lv_imul hx hb dX11_faults_45 ?_
      rw [show 10 * (nI ((exN (lEx (aE S2 j)) (yO Y j)).2.1)) = nI (10 * ((exN (lEx (aE S2 j)) (yO Y j)).2.1)) from pk_mul _ _]
      refine lv_aload_n hx hb dX11_faults_46 rfl (lv_at hl 0 rfl) ?_
      refine mq_get (ci := 16) (v := .ref (ad 23 0 0)) (C := RX11) (T := TX11) (N := 4) hx hb hts nX11 hown hK hM h_3 rfl 3 (by decide) w1 (fun _ h9 => h9) rfl dX11_faults_47 ?_
      refine lv_iload_n hx hb dX11_faults_50 rfl (lv_at hl 1 rfl) ?_
      refine mq_callq (va_runV (As := [.int (nI j)]) (rest := [.int (nI (10 * ((exN (lEx (aE S2 j)) (yO Y j)).2.1)))]) ⟨hx, hb, hml, hown, hts⟩ (c_Jx4a65c_get_915e3 l G A f_1 (ad 23 0 0) (yL Y).1 (ad 24 0 0) (yL Y).2 (aL S2) j (fun i => ad 27 i 0)) (cwV 1 hts gX11_faults_Jx4a65c_get_915e3 rfl rfl rfl (by decide +kernel) ⟨Nat.le_of_ble_eq_true rfl, Nat.le_of_ble_eq_true rfl⟩) (mq_preV hK hZ hS hA hM (q := (RJx4a65c, TJx4a65c, 3)) y123_176 rfl (⟨y123_176, y24_177, hj, hls, by omega⟩) _) rfl rfl hl.1 rfl (lv_room (Nat.le_of_ble_eq_true rfl)) dX11_faults_51 ⟨Nat.le_of_ble_eq_true rfl, Nat.le_of_ble_eq_true rfl⟩) hS (fun r51 g51 H locs p51 hM hS => ?_)
      refine W.widen (k := 0) (n := 0) (Nat.le_of_ble_eq_true rfl) (Nat.le_of_ble_eq_true rfl) ?_
      obtain ⟨rfl, rfl⟩ := p51
      refine mq_castG hx hb hown w2 (mq_recv hK hM y27_178 rfl) dX11_faults_54 ?_
      refine mq_get (ci := 14) (v := .int (nI ((exN (lEx (aE S2 j)) (yO Y j)).2.2))) (C := RX9) (T := TX9) (N := 8) hx hb hts nX9 hown hK hM y27_178 rfl 5 (by decide) w4 (fun _ h9 => h9) rfl dX11_faults_57 ?_
      refine lv_iadd hx hb dX11_faults_60 ?_
      rw [show (nI (10 * ((exN (lEx (aE S2 j)) (yO Y j)).2.1))) + (nI ((exN (lEx (aE S2 j)) (yO Y j)).2.2)) = nI ((10 * ((exN (lEx (aE S2 j)) (yO Y j)).2.1)) + ((exN (lEx (aE S2 j)) (yO Y j)).2.2)) from nI_add _ _]
      exact mq_iret (v := nI ((10 * ((exN (lEx (aE S2 j)) (yO Y j)).2.1)) + ((exN (lEx (aE S2 j)) (yO Y j)).2.2))) hx hb hr hlocks hM hS (⟨0, (spL_y hj hl4).trans (by rw [he9]; rfl), hR1⟩) dX11_faults_61
    · obtain ⟨he9, hR9⟩ := nx_1 p21 c_24
      refine lv_iconst (v := 0) hx hb dX11_faults_27 (by decide) ?_
      exact mq_iret (v := 0) hx hb hr hlocks hM hS (⟨2, (spL_y hj hl4).trans (by rw [he9]; rfl), hR9⟩) dX11_faults_28

theorem eqF_P {q : eqT} {k : Int32} (h : k = 97 ∨ k = 98 ∨ k = 99 ∨ k = 100) : vp_in (k - 97) 4 ∧ eqF q (k - 97).toNatClampNeg = eqP q k := by
  rcases h with rfl | rfl | rfl | rfl <;> exact ⟨vp_in_iff.mpr (by decide), rfl⟩
theorem inB4 {k : Int32} (h : inB k 97 100 = true) : 97 ≤ k ∧ k ≤ 100 := of_decide_eq_true h

set_option maxHeartbeats 4000000 in
set_option maxRecDepth 100000 in
theorem c_X11_part (l : Launch) (G : mq_G) (A : Nat → Prop) (f : mq_F) (ad : AD) (S : AT) (X : CX) (S2 : AT) (Y : MX) (O : OX) (T : Nat) (ui ub : Int32) : Met l yX11_part wsX11_part ({ frames := 11, cells := 0, slots := 0, locals := 206 } : Room) (mq_Pc G A f (WR G f ad S X S2 Y O ∧ mOK S2 Y T) [.ref (ad 20 0 0), .int ui, .int ub]) (mq_Qi G A (fun r g => ∃ c9, spPart S2 ui ub = (c9, r) ∧ WR G g ad S X S2 (yThr Y (nI c9)) O)) 0 0 A := by
  refine Met.ofW (cc := cX11_part) (maxL := 3) (ret := (some .int)) (by decide) rfl ?_
  intro p e s m args below meth c s₁ B hml hv
  obtain ⟨rfl, ⟨hK, hZ, hM, hA⟩, hp⟩ := hv
  have hx := B.exec
  have hb := B.bytes
  have hr := B.returns
  have hts := atoms_spec (ws := wsX11_part) B.pre
  have hown : s.vm.findClass RX11 = some m.cls := findClass_of_methodNamed B.named
  have hlocks := B.notSynchronized
  have hS : va_S A s.heap s.heap [] := va_S.rf
  have hl := lv_entry ([.ref (ad 20 0 0), .int ui, .int ub]) (n := 3) (Nat.le_of_ble_eq_true rfl)
  rw [lg_entry_eq]
  generalize (lg_sl ([.ref (ad 20 0 0), .int ui, .int ub]) ++ List.replicate (3 - (lg_sl ([.ref (ad 20 0 0), .int ui, .int ub])).length) Slot.unset).toArray = ls at hl ⊢
  have hl : lv_has ls 3 [(0, .ref (ad 20 0 0)), (1, .int ui), (2, .int ub)] := hl
  have w0 := hts (.fieldLink RX11 19 "TutorlightModel" "thrown" "I") (List.mem_of_getElem? (i := 1) rfl)
  have w1 := hts (.fieldLink RX11 16 "TutorlightModel" "learners" "Ljava/util/ArrayList;") (List.mem_of_getElem? (i := 2) rfl)
  have w2 := hts (.classLink RX11 46 "TutorlightModel$Learner") (List.mem_of_getElem? (i := 3) rfl)
  have w3 := hts (.fieldLink RX11 186 "TutorlightModel$Learner" "equation" "[I") (List.mem_of_getElem? (i := 4) rfl)
  have nX11 : ∀ w ∈ wsX110, w ∈ wsX11_part := fun _ h => List.mem_cons_of_mem _ (List.mem_append_left _ (List.mem_append_left _ (List.mem_append_left _ (List.mem_append_right _ h))))
  have nX9 : ∀ w ∈ wsX90, w ∈ wsX11_part := fun _ h => List.mem_cons_of_mem _ (List.mem_append_left _ (List.mem_append_left _ (List.mem_append_right _ h)))
  obtain ⟨hR, hO⟩ := hp
  obtain ⟨⟨X9, ⟨hn, hl4, hd2, hT⟩, hsk, hma, hdc, hle, -⟩, ⟨hns, hnc⟩, ⟨hls, hlc⟩, hac, hmc⟩ := id hO
  have y20_185 := hR.1 _ _ _ _ (t20)
  refine lv_aload_n hx hb dX11_part_0 rfl (lv_at hl 0 rfl) ?_
  refine lv_iconst (v := 0) hx hb dX11_part_1 (by decide) ?_
  refine mq_put (ci := 16) (v := .int 0) (ty := .int) (C := RX11) (T := TX11) (N := 4) (fs' := [.int 0, .int (nI (aD S2)), .ref (ad 21 0 0), .ref (ad 23 0 0)]) hx hb hts nX11 tyX11 tyX11_ok nmX11 hown hK hM hS y20_185 rfl 0 (by decide) w0 (fun _ h9 => h9) rfl (by decide +kernel) rfl rfl (Nat.le_of_ble_eq_true rfl) dX11_part_2 rfl (fun f_1 H locs e_2 hM hS => ?_)
  have h_3 : f_1 (ad 20 0 0) = some (.inr (16, [.int 0, .int (nI (aD S2)), .ref (ad 21 0 0), .ref (ad 23 0 0)])) := mq_s e_2
  have hR1 := WR_yt hR e_2
  refine lv_aload_n hx hb dX11_part_5 rfl (lv_at hl 0 rfl) ?_
  have y23_180 := hR1.1 _ _ _ _ (t23)
  refine lv_aload_n hx hb dX11_part_6 rfl (lv_at hl 0 rfl) ?_
  refine lv_iload_n hx hb dX11_part_7 rfl (lv_at hl 1 rfl) ?_
  refine mq_calli (va_runV (As := [.int ui]) (rest := [.ref (ad 20 0 0)]) ⟨hx, hb, hml, hown, hts⟩ (c_X11_noLearner l G A f_1 (ad 20 0 0) (ad 23 0 0) ui 0 (nI (aD S2)) (ad 21 0 0) (lsD G (yL Y).2 (ad 24 0 0)) (aL S2) (yL Y).1) (cwV 1 hts gX11_part_X11_noLearner rfl rfl rfl (by decide +kernel) ⟨Nat.le_of_ble_eq_true rfl, Nat.le_of_ble_eq_true rfl⟩) (mq_preV hK hZ hS hA hM (q := (RX11, TX11, 4)) h_3 rfl (⟨h_3, y23_180, by omega⟩) _) rfl rfl hl.1 rfl (lv_room (Nat.le_of_ble_eq_true rfl)) dX11_part_8 ⟨Nat.le_of_ble_eq_true rfl, Nat.le_of_ble_eq_true rfl⟩) hS (fun r8 g8 H locs p8 hM hS => ?_)
  refine W.widen (k := 0) (n := 0) (Nat.le_of_ble_eq_true rfl) (Nat.le_of_ble_eq_true rfl) ?_
  obtain ⟨rfl, rfl⟩ := p8
  refine lv_iconst (v := 1) hx hb dX11_part_11 (by decide) ?_
  refine mq_calli (va_runV (As := [.int (zb (!vI ui (aL S2))), .int 1]) (rest := []) ⟨hx, hb, hml, hown, hts⟩ (c_X11_fails l G A f_1 (ad 20 0 0) (!vI ui (aL S2)) 1 0 (nI (aD S2)) (ad 21 0 0) (ad 23 0 0)) (cwV 2 hts gX11_part_X11_fails rfl rfl rfl (by decide +kernel) ⟨Nat.le_of_ble_eq_true rfl, Nat.le_of_ble_eq_true rfl⟩) (mq_preV hK hZ hS hA hM (q := (RX11, TX11, 4)) h_3 rfl (h_3) _) rfl rfl hl.1 rfl (lv_room (Nat.le_of_ble_eq_true rfl)) dX11_part_12 ⟨Nat.le_of_ble_eq_true rfl, Nat.le_of_ble_eq_true rfl⟩) hS (fun r12 g12 H locs p12 hM hS => ?_)
  refine W.widen (k := 0) (n := 0) (Nat.le_of_ble_eq_true rfl) (Nat.le_of_ble_eq_true rfl) ?_
  refine lv_if_ne (tgt := 51) hx hb dX11_part_15 (by decide) (fun c_15 => ?_) (fun c_15 => ?_)
  · obtain ⟨hv9, hg⟩ := fl_n p12 c_15
    refine lv_iconst (v := 0) hx hb dX11_part_51 (by decide) ?_
    exact mq_iret (v := 0) hx hb hr hlocks hM hS (⟨1, spL_n (fun q => absurd (vI_iff.mpr q) (by rw [hv9]; decide)), by have q9 := WR_yt hR1 hg; exact q9⟩) dX11_part_52
  · obtain ⟨hv9, rfl⟩ := fl_y h_3 p12 (by decide) c_15
    obtain ⟨j, hj, rfl⟩ := vI_ex1 hv9
    refine lv_aload_n hx hb dX11_part_18 rfl (lv_at hl 0 rfl) ?_
    refine lv_iload_n hx hb dX11_part_19 rfl (lv_at hl 2 rfl) ?_
    refine lv_bipush (v := 97) hx hb dX11_part_20 (by decide) ?_
    refine lv_bipush (v := 100) hx hb dX11_part_22 (by decide) ?_
    refine mq_calli (va_runS (As := [.int ub, .int 97, .int 100]) (rest := [.ref (ad 20 0 0)]) ⟨hx, hb, hml, hown, hts⟩ (c_X11_in l G A f_1 ub 97 100) (va_cwS 3 hts gX11_part_X11_in rfl rfl rfl (by decide +kernel) ⟨Nat.le_of_ble_eq_true rfl, Nat.le_of_ble_eq_true rfl⟩) (mq_preS hK hZ hS hA hM (trivial) _) rfl rfl hl.1 rfl (lv_room (Nat.le_of_ble_eq_true rfl)) dX11_part_24 ⟨Nat.le_of_ble_eq_true rfl, Nat.le_of_ble_eq_true rfl⟩) hS (fun r24 g24 H locs p24 hM hS => ?_)
    refine W.widen (k := 0) (n := 0) (Nat.le_of_ble_eq_true rfl) (Nat.le_of_ble_eq_true rfl) ?_
    obtain ⟨rfl, rfl⟩ := p24
    refine lv_if_ne (tgt := 34) hx hb dX11_part_27 (by decide) (fun c_27 => ?_) (fun c_27 => ?_)
    · replace c_27 : ¬ zb (inB ub 97 100) = 0 := c_27
      rw [zb_n0] at c_27
      refine lv_iconst (v := 0) hx hb dX11_part_34 (by decide) ?_
      refine lv_iconst (v := 2) hx hb dX11_part_35 (by decide) ?_
      refine mq_calli (va_runV (As := [.int 0, .int 2]) (rest := []) ⟨hx, hb, hml, hown, hts⟩ (c_X11_fails l G A f_1 (ad 20 0 0) false 2 0 (nI (aD S2)) (ad 21 0 0) (ad 23 0 0)) (cwV 2 hts gX11_part_X11_fails rfl rfl rfl (by decide +kernel) ⟨Nat.le_of_ble_eq_true rfl, Nat.le_of_ble_eq_true rfl⟩) (mq_preV hK hZ hS hA hM (q := (RX11, TX11, 4)) h_3 rfl (h_3) _) rfl rfl hl.1 rfl (lv_room (Nat.le_of_ble_eq_true rfl)) dX11_part_36 ⟨Nat.le_of_ble_eq_true rfl, Nat.le_of_ble_eq_true rfl⟩) hS (fun r36 g36 H locs p36 hM hS => ?_)
      refine W.widen (k := 0) (n := 0) (Nat.le_of_ble_eq_true rfl) (Nat.le_of_ble_eq_true rfl) ?_
      obtain ⟨hg, hr9⟩ := p36
      obtain rfl := fl_0 h_3 hg
      rw [hr9, show zb (decide (fT false 0 2 ≠ 0)) = 0 from by decide]
      refine lv_if_ne (tgt := 51) hx hb dX11_part_39 (by decide) (fun c_39 => absurd c_39 (by decide)) (fun c_39 => ?_)
      refine lv_aload_n hx hb dX11_part_42 rfl (lv_at hl 0 rfl) ?_
      refine lv_iload_n hx hb dX11_part_43 rfl (lv_at hl 1 rfl) ?_
      refine lv_iconst (v := 3) hx hb dX11_part_44 (by decide) ?_
      refine mq_calli (va_runV (As := [.int (nI j), .int 3]) (rest := []) ⟨hx, hb, hml, hown, hts⟩ (c_X11_noExercise l G A f_1 ad S X S2 (yThr Y 0) O T j 3) (cwV 2 hts gX11_part_X11_noExercise rfl rfl rfl (by decide +kernel) ⟨Nat.le_of_ble_eq_true rfl, Nat.le_of_ble_eq_true rfl⟩) (mq_preV hK hZ hS hA hM (q := (RX11, TX11, 4)) h_3 rfl (⟨hR1, hO.thr 0, hj, rfl⟩) _) rfl rfl hl.1 rfl (lv_room (Nat.le_of_ble_eq_true rfl)) dX11_part_45 ⟨Nat.le_of_ble_eq_true rfl, Nat.le_of_ble_eq_true rfl⟩) hS (fun r45 g45 H locs p45 hM hS => ?_)
      refine W.widen (k := 0) (n := 0) (Nat.le_of_ble_eq_true rfl) (Nat.le_of_ble_eq_true rfl) ?_
      refine lv_if_eq (tgt := 53) hx hb dX11_part_48 (by decide) (fun c_48 => ?_) (fun c_48 => ?_)
      · obtain ⟨e9, he9, rfl⟩ := nx_0 p45 (by decide) c_48
        have hu := eqF_P (q := e9.2.2.1) (char4 (Int32.not_lt.mpr (inB4 c_27).1) (inB4 c_27).2)
        have hcl : (yL Y).2 ≠ 0 := by omega
        have y123_181 := hR1.1 _ _ _ _ (t123 hcl)
        have y24_182 := hR1.1 _ _ _ _ (t24 hcl)
        have y27_183 := hR1.1 _ _ _ _ (t27 (j := j) hj)
        have y35_184 := hR1.1 _ _ _ _ (t35 (j := j) hj he9)
        refine lv_aload_n hx hb dX11_part_53 rfl (lv_at hl 0 rfl) ?_
        refine mq_get (ci := 16) (v := .ref (ad 23 0 0)) (C := RX11) (T := TX11) (N := 4) hx hb hts nX11 hown hK hM h_3 rfl 3 (by decide) w1 (fun _ h9 => h9) rfl dX11_part_54 ?_
        refine lv_iload_n hx hb dX11_part_57 rfl (lv_at hl 1 rfl) ?_
        refine mq_callq (va_runV (As := [.int (nI j)]) (rest := []) ⟨hx, hb, hml, hown, hts⟩ (c_Jx4a65c_get_915e3 l G A f_1 (ad 23 0 0) (yL Y).1 (ad 24 0 0) (yL Y).2 (aL S2) j (fun i => ad 27 i 0)) (cwV 1 hts gX11_part_Jx4a65c_get_915e3 rfl rfl rfl (by decide +kernel) ⟨Nat.le_of_ble_eq_true rfl, Nat.le_of_ble_eq_true rfl⟩) (mq_preV hK hZ hS hA hM (q := (RJx4a65c, TJx4a65c, 3)) y123_181 rfl (⟨y123_181, y24_182, hj, hls, by omega⟩) _) rfl rfl hl.1 rfl (lv_room (Nat.le_of_ble_eq_true rfl)) dX11_part_58 ⟨Nat.le_of_ble_eq_true rfl, Nat.le_of_ble_eq_true rfl⟩) hS (fun r58 g58 H locs p58 hM hS => ?_)
        refine W.widen (k := 0) (n := 0) (Nat.le_of_ble_eq_true rfl) (Nat.le_of_ble_eq_true rfl) ?_
        obtain ⟨rfl, rfl⟩ := p58
        refine mq_castG hx hb hown w2 (mq_recv hK hM y27_183 rfl) dX11_part_61 ?_
        refine mq_get (ci := 14) (v := va_rf (oMap (lEx (aE S2 j)) (ad 35 j 0))) (C := RX9) (T := TX9) (N := 8) hx hb hts nX9 hown hK hM y27_183 rfl 2 (by decide) w3 (fun _ h9 => h9) rfl dX11_part_64 ?_
        rw [show oMap (lEx (aE S2 j)) (ad 35 j 0) = some (ad 35 j 0) from by rw [he9]; rfl]
        refine lv_iload_n hx hb dX11_part_67 rfl (lv_at hl 2 rfl) ?_
        refine lv_bipush (v := 97) hx hb dX11_part_68 (by decide) ?_
        refine lv_isub hx hb dX11_part_70 ?_
        rw [show ub - 97 = ub - 97 from rfl]
        refine mq_iald hx hb hK hM y35_184 (hu.1) dX11_part_71 ?_
        rw [show (eqF e9.2.2.1) (ub - 97).toNatClampNeg = eqP e9.2.2.1 ub from hu.2]
        exact mq_iret (v := eqP e9.2.2.1 ub) hx hb hr hlocks hM hS (⟨0, (spL_y hj hl4).trans ((if_pos (inB4 c_27)).trans (by rw [he9])), hR1⟩) dX11_part_72
      · obtain ⟨he9, hR9⟩ := nx_1 p45 c_48
        refine lv_iconst (v := 0) hx hb dX11_part_51 (by decide) ?_
        exact mq_iret (v := 0) hx hb hr hlocks hM hS (⟨3, (spL_y hj hl4).trans ((if_pos (inB4 c_27)).trans (by rw [he9])), hR9⟩) dX11_part_52
    · replace c_27 : zb (inB ub 97 100) = 0 := c_27
      rw [zb_0] at c_27
      refine lv_iconst (v := 1) hx hb dX11_part_30 (by decide) ?_
      refine lv_goto (tgt := 35) hx hb dX11_part_31 (by decide) ?_
      refine lv_iconst (v := 2) hx hb dX11_part_35 (by decide) ?_
      refine mq_calli (va_runV (As := [.int 1, .int 2]) (rest := []) ⟨hx, hb, hml, hown, hts⟩ (c_X11_fails l G A f_1 (ad 20 0 0) true 2 0 (nI (aD S2)) (ad 21 0 0) (ad 23 0 0)) (cwV 2 hts gX11_part_X11_fails rfl rfl rfl (by decide +kernel) ⟨Nat.le_of_ble_eq_true rfl, Nat.le_of_ble_eq_true rfl⟩) (mq_preV hK hZ hS hA hM (q := (RX11, TX11, 4)) h_3 rfl (h_3) _) rfl rfl hl.1 rfl (lv_room (Nat.le_of_ble_eq_true rfl)) dX11_part_36 ⟨Nat.le_of_ble_eq_true rfl, Nat.le_of_ble_eq_true rfl⟩) hS (fun r36 g36 H locs p36 hM hS => ?_)
      refine W.widen (k := 0) (n := 0) (Nat.le_of_ble_eq_true rfl) (Nat.le_of_ble_eq_true rfl) ?_
      obtain ⟨hg, hr9⟩ := p36
      rw [hr9, show zb (decide (fT true 0 2 ≠ 0)) = 1 from by decide]
      refine lv_if_ne (tgt := 51) hx hb dX11_part_39 (by decide) (fun c_39 => ?_) (fun c_39 => absurd c_39 (by decide))
      refine lv_iconst (v := 0) hx hb dX11_part_51 (by decide) ?_
      exact mq_iret (v := 0) hx hb hr hlocks hM hS (⟨2, (spL_y hj hl4).trans (if_neg (of_decide_eq_false c_27)), by have q9 := WR_yt hR1 hg; exact q9⟩) dX11_part_52
