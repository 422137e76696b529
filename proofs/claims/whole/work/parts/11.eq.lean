/-! EQUATIONS: the four numbers, and what the class's methods do to them -/
abbrev eqT : Type := Int32 × Int32 × Int32 × Int32
abbrev cEq (q : eqT) : va_E := .inr (5, [.int q.1, .int q.2.1, .int q.2.2.1, .int q.2.2.2])
def zb (b : Bool) : Int32 := if b then 1 else 0
theorem zb_t : zb true = 1 := rfl
theorem zb_f : zb false = 0 := rfl
theorem zb_0 {b : Bool} : zb b = 0 ↔ b = false := by cases b <;> decide
theorem zb_n0 {b : Bool} : ¬ zb b = 0 ↔ b = true := by cases b <;> decide
theorem zb_nar (b : Bool) : narrow .boolean (.int (zb b)) = .int (zb b) := by cases b <;> rfl
def eq_tB (br : Bool) (q : eqT) : eqT := (q.1, 0, q.2.2.1, if br then q.2.2.2 + q.2.1 else q.2.2.2 - q.2.1)
def eq_tC (br : Bool) (q : eqT) : eqT := (if br then q.1 + q.2.2.1 else q.1 - q.2.2.1, q.2.1, 0, q.2.2.2)
def eq_cS (q : eqT) : eqT := (q.2.2.1, q.2.2.2, q.1, q.2.1)
def eq_cG (br : Bool) (q : eqT) : eqT := (-q.1, -q.2.1, if br then q.2.2.1 else -q.2.2.1, if br then q.2.2.2 else -q.2.2.2)
def eq_may (q : eqT) : Bool := decide (q.2.1 = 0) && (decide (q.2.2.1 = 0) && (!decide (q.1 = 0) && decide (q.2.2.2 - q.2.2.2 / q.1 * q.1 = 0)))
def eq_dv (br : Bool) (q : eqT) : eqT := if eq_may q then (1, q.2.1, q.2.2.1, if br then q.2.2.2 else q.2.2.2 / q.1) else q
/-- a rule, right or broken -/
def eq_rule (k : Nat) (br : Bool) (q : eqT) : eqT := match k with
  | 0 => eq_tB br q
  | 1 => eq_tC br q
  | 2 => eq_cS q
  | 3 => eq_cG br q
  | 4 => eq_dv br q
  | _ => q
/-- whether two equations, seen as m x = n and p x = q, have the same solutions -/
def eq_fol (m n p q : Int64) : Bool := if m = 0 ∨ p = 0 then decide (m = p) && (decide (n = 0) == decide (q = 0)) else decide (n * p = q * m)
theorem fol_zz {m n p q : Int64} (h : m = 0 ∨ p = 0) : eq_fol m n p q = (decide (m = p) && (decide (n = 0) == decide (q = 0))) := if_pos h
theorem fol_nz {m n p q : Int64} (h : ¬ (m = 0 ∨ p = 0)) : eq_fol m n p q = decide (n * p = q * m) := if_neg h
def eq_same (x y : eqT) : Bool := eq_fol (x.1 - x.2.2.1).toInt64 (x.2.2.2 - x.2.1).toInt64 (y.1 - y.2.2.1).toInt64 (y.2.2.2 - y.2.1).toInt64

set_option maxHeartbeats 4000000 in
set_option maxRecDepth 100000 in
/-- Equation(ea, eb, ec, ed) -/
theorem c_X0_init (l : Launch) (G : mq_G) (A : Nat → Prop) (f : mq_F) (x : Nat) (ea eb ec ed : Int32) : Met l yX0_init wsX0_init ({ frames := 1, cells := 0, slots := 0, locals := 24 } : Room) (mq_Pc G A f (∃ q : eqT, f x = some (cEq q)) [.ref x, .int ea, .int eb, .int ec, .int ed]) (mq_Qv G A (fun g => g = mq_up f x (cEq (ea, eb, ec, ed)))) 0 0 A := by
  refine Met.ofW (cc := cX0_init) (maxL := 5) (ret := none) (by decide) rfl ?_
  intro p e s m args below meth c s₁ B hml hv
  obtain ⟨rfl, ⟨hK, hZ, hM, hA⟩, hp⟩ := hv
  have hx := B.exec
  have hb := B.bytes
  have hr := B.returns
  have hts := atoms_spec (ws := wsX0_init) B.pre
  have hown : s.vm.findClass RX0 = some m.cls := findClass_of_methodNamed B.named
  have hlocks := B.notSynchronized
  have hin : meth.name = "<init>" := (name_of_methodNamed B.named B.method).1
  have hS : va_S A s.heap s.heap [] := va_S.rf
  have hl := lv_entry ([.ref x, .int ea, .int eb, .int ec, .int ed]) (n := 5) (Nat.le_of_ble_eq_true rfl)
  rw [lg_entry_eq]
  generalize (lg_sl ([.ref x, .int ea, .int eb, .int ec, .int ed]) ++ List.replicate (5 - (lg_sl ([.ref x, .int ea, .int eb, .int ec, .int ed])).length) Slot.unset).toArray = ls at hl ⊢
  have hl : lv_has ls 5 [(0, .ref x), (1, .int ea), (2, .int eb), (3, .int ec), (4, .int ed)] := hl
  have w0 := hts (.methodLink RX0 1 objectInit) (List.mem_of_getElem? (i := 1) rfl)
  have w1 := hts (.instanceMethod objectInit) (List.mem_of_getElem? (i := 2) rfl)
  have w2 := hts (.code objectInit ⟨#[0xb1]⟩ 1 none) (List.mem_of_getElem? (i := 3) rfl)
  have w3 := hts (.fieldLink RX0 7 "Tutorlight$Equation" "a" "I") (List.mem_of_getElem? (i := 4) rfl)
  have w4 := hts (.fieldLink RX0 13 "Tutorlight$Equation" "b" "I") (List.mem_of_getElem? (i := 5) rfl)
  have w5 := hts (.fieldLink RX0 16 "Tutorlight$Equation" "c" "I") (List.mem_of_getElem? (i := 6) rfl)
  have w6 := hts (.fieldLink RX0 19 "Tutorlight$Equation" "d" "I") (List.mem_of_getElem? (i := 7) rfl)
  have nX0 : ∀ w ∈ wsX00, w ∈ wsX0_init := fun _ h => List.mem_cons_of_mem _ (List.mem_append_right _ h)
  obtain ⟨⟨ea0, eb0, ec0, ed0⟩, h0⟩ := hp
  refine lv_aload_n hx hb dX0_init_0 rfl (lv_at hl 0 rfl) ?_
  refine W.objInit hx hb hown w0 w1 w2 rfl (by rw [hml]; exact hl.1) rfl dX0_init_1 (Nat.le_of_ble_eq_true rfl) (Nat.le_of_ble_eq_true rfl) ?_
  refine W.eq (g2 := F0 m 4 ls []) rfl ?_
  refine lv_aload_n hx hb dX0_init_4 rfl (lv_at hl 0 rfl) ?_
  refine lv_iload_n hx hb dX0_init_5 rfl (lv_at hl 1 rfl) ?_
  refine mq_put (ci := 5) (v := .int ea) (ty := .int) (C := RX0) (T := TX0) (N := 4) (fs' := [.int ea, .int eb0, .int ec0, .int ed0]) hx hb hts nX0 tyX0 tyX0_ok nmX0 hown hK hM hS h0 rfl 0 (by decide) w3 (fun _ h9 => h9) rfl (by decide +kernel) rfl rfl (Nat.le_of_ble_eq_true rfl) dX0_init_6 rfl (fun f_1 H locs e_2 hM hS => ?_)
  have h_3 : f_1 x = some (.inr (5, [.int ea, .int eb0, .int ec0, .int ed0])) := mq_s e_2
  refine lv_aload_n hx hb dX0_init_9 rfl (lv_at hl 0 rfl) ?_
  refine lv_iload_n hx hb dX0_init_10 rfl (lv_at hl 2 rfl) ?_
  refine mq_put (ci := 5) (v := .int eb) (ty := .int) (C := RX0) (T := TX0) (N := 4) (fs' := [.int ea, .int eb, .int ec0, .int ed0]) hx hb hts nX0 tyX0 tyX0_ok nmX0 hown hK hM hS h_3 rfl 1 (by decide) w4 (fun _ h9 => h9) rfl (by decide +kernel) rfl rfl (Nat.le_of_ble_eq_true rfl) dX0_init_11 rfl (fun f_4 H locs e_5 hM hS => ?_)
  have h_6 : f_4 x = some (.inr (5, [.int ea, .int eb, .int ec0, .int ed0])) := mq_s e_5
  refine lv_aload_n hx hb dX0_init_14 rfl (lv_at hl 0 rfl) ?_
  refine lv_iload_n hx hb dX0_init_15 rfl (lv_at hl 3 rfl) ?_
  refine mq_put (ci := 5) (v := .int ec) (ty := .int) (C := RX0) (T := TX0) (N := 4) (fs' := [.int ea, .int eb, .int ec, .int ed0]) hx hb hts nX0 tyX0 tyX0_ok nmX0 hown hK hM hS h_6 rfl 2 (by decide) w5 (fun _ h9 => h9) rfl (by decide +kernel) rfl rfl (Nat.le_of_ble_eq_true rfl) dX0_init_16 rfl (fun f_7 H locs e_8 hM hS => ?_)
  have h_9 : f_7 x = some (.inr (5, [.int ea, .int eb, .int ec, .int ed0])) := mq_s e_8
  refine lv_aload_n hx hb dX0_init_19 rfl (lv_at hl 0 rfl) ?_
  refine lv_iload hx hb dX0_init_20 (lv_at hl 4 rfl) ?_
  refine mq_put (ci := 5) (v := .int ed) (ty := .int) (C := RX0) (T := TX0) (N := 4) (fs' := [.int ea, .int eb, .int ec, .int ed]) hx hb hts nX0 tyX0 tyX0_ok nmX0 hown hK hM hS h_9 rfl 3 (by decide) w6 (fun _ h9 => h9) rfl (by decide +kernel) rfl rfl (Nat.le_of_ble_eq_true rfl) dX0_init_22 rfl (fun f_10 H locs e_11 hM hS => ?_)
  have h_12 : f_10 x = some (.inr (5, [.int ea, .int eb, .int ec, .int ed])) := mq_s e_11
  exact mq_vret hx hb hr hlocks hM hS (by rw [e_11, e_8, e_5, e_2]; (try simp only [mq_uu]); (try rfl)) dX0_init_25

set_option maxHeartbeats 4000000 in
set_option maxRecDepth 100000 in
theorem c_X0_become (l : Launch) (G : mq_G) (A : Nat → Prop) (f : mq_F) (x y : Nat) (ea0 eb0 ec0 ed0 : Int32) (ea1 eb1 ec1 ed1 : Int32) : Met l yX0_become wsX0_become ({ frames := 0, cells := 0, slots := 0, locals := 0 } : Room) (mq_Pc G A f (x ≠ y ∧ f x = some (cEq (ea0, eb0, ec0, ed0)) ∧ f y = some (cEq (ea1, eb1, ec1, ed1))) [.ref x, .ref y]) (mq_Qv G A (fun g => g = mq_up f x (cEq (ea1, eb1, ec1, ed1)))) 0 0 A := by
  refine Met.ofW (cc := cX0_become) (maxL := 2) (ret := none) (by decide) rfl ?_
  intro p e s m args below meth c s₁ B hml hv
  obtain ⟨rfl, ⟨hK, hZ, hM, hA⟩, hp⟩ := hv
  have hx := B.exec
  have hb := B.bytes
  have hr := B.returns
  have hts := atoms_spec (ws := wsX0_become) B.pre
  have hown : s.vm.findClass RX0 = some m.cls := findClass_of_methodNamed B.named
  have hlocks := B.notSynchronized
  have hS : va_S A s.heap s.heap [] := va_S.rf
  have hl := lv_entry ([.ref x, .ref y]) (n := 2) (Nat.le_of_ble_eq_true rfl)
  rw [lg_entry_eq]
  generalize (lg_sl ([.ref x, .ref y]) ++ List.replicate (2 - (lg_sl ([.ref x, .ref y])).length) Slot.unset).toArray = ls at hl ⊢
  have hl : lv_has ls 2 [(0, .ref x), (1, .ref y)] := hl
  have w0 := hts (.fieldLink RX0 7 "Tutorlight$Equation" "a" "I") (List.mem_of_getElem? (i := 1) rfl)
  have w1 := hts (.fieldLink RX0 13 "Tutorlight$Equation" "b" "I") (List.mem_of_getElem? (i := 2) rfl)
  have w2 := hts (.fieldLink RX0 16 "Tutorlight$Equation" "c" "I") (List.mem_of_getElem? (i := 3) rfl)
  have w3 := hts (.fieldLink RX0 19 "Tutorlight$Equation" "d" "I") (List.mem_of_getElem? (i := 4) rfl)
  have nX0 : ∀ w ∈ wsX00, w ∈ wsX0_become := fun _ h => List.mem_cons_of_mem _ (List.mem_append_right _ h)
  obtain ⟨hne, h0, h1⟩ := hp
  refine lv_aload_n hx hb dX0_become_0 rfl (lv_at hl 0 rfl) ?_
  refine lv_aload_n hx hb dX0_become_1 rfl (lv_at hl 1 rfl) ?_
  refine mq_get (ci := 5) (v := .int ea1) (C := RX0) (T := TX0) (N := 4) hx hb hts nX0 hown hK hM h1 rfl 0 (by decide) w0 (fun _ h9 => h9) rfl dX0_become_2 ?_
  refine mq_put (ci := 5) (v := .int ea1) (ty := .int) (C := RX0) (T := TX0) (N := 4) (fs' := [.int ea1, .int eb0, .int ec0, .int ed0]) hx hb hts nX0 tyX0 tyX0_ok nmX0 hown hK hM hS h0 rfl 0 (by decide) w0 (fun _ h9 => h9) rfl (by decide +kernel) rfl rfl (Nat.le_of_ble_eq_true rfl) dX0_become_5 rfl (fun f_1 H locs e_2 hM hS => ?_)
  have h_3 : f_1 y = some (.inr (5, [.int ea1, .int eb1, .int ec1, .int ed1])) := mq_n e_2 h1 (Ne.symm hne)
  have h_4 : f_1 x = some (.inr (5, [.int ea1, .int eb0, .int ec0, .int ed0])) := mq_s e_2
  refine lv_aload_n hx hb dX0_become_8 rfl (lv_at hl 0 rfl) ?_
  refine lv_aload_n hx hb dX0_become_9 rfl (lv_at hl 1 rfl) ?_
  refine mq_get (ci := 5) (v := .int eb1) (C := RX0) (T := TX0) (N := 4) hx hb hts nX0 hown hK hM h_3 rfl 1 (by decide) w1 (fun _ h9 => h9) rfl dX0_become_10 ?_
  refine mq_put (ci := 5) (v := .int eb1) (ty := .int) (C := RX0) (T := TX0) (N := 4) (fs' := [.int ea1, .int eb1, .int ec0, .int ed0]) hx hb hts nX0 tyX0 tyX0_ok nmX0 hown hK hM hS h_4 rfl 1 (by decide) w1 (fun _ h9 => h9) rfl (by decide +kernel) rfl rfl (Nat.le_of_ble_eq_true rfl) dX0_become_13 rfl (fun f_5 H locs e_6 hM hS => ?_)
  have h_7 : f_5 y = some (.inr (5, [.int ea1, .int eb1, .int ec1, .int ed1])) := mq_n e_6 h_3 (Ne.symm hne)
  have h_8 : f_5 x = some (.inr (5, [.int ea1, .int eb1, .int ec0, .int ed0])) := mq_s e_6
  refine lv_aload_n hx hb dX0_become_16 rfl (lv_at hl 0 rfl) ?_
  refine lv_aload_n hx hb dX0_become_17 rfl (lv_at hl 1 rfl) ?_
  refine mq_get (ci := 5) (v := .int ec1) (C := RX0) (T := TX0) (N := 4) hx hb hts nX0 hown hK hM h_7 rfl 2 (by decide) w2 (fun _ h9 => h9) rfl dX0_become_18 ?_
  refine mq_put (ci := 5) (v := .int ec1) (ty := .int) (C := RX0) (T := TX0) (N := 4) (fs' := [.int ea1, .int eb1, .int ec1, .int ed0]) hx hb hts nX0 tyX0 tyX0_ok nmX0 hown hK hM hS h_8 rfl 2 (by decide) w2 (fun _ h9 => h9) rfl (by decide +kernel) rfl rfl (Nat.le_of_ble_eq_true rfl) dX0_become_21 rfl (fun f_9 H locs e_10 hM hS => ?_)
  have h_11 : f_9 y = some (.inr (5, [.int ea1, .int eb1, .int ec1, .int ed1])) := mq_n e_10 h_7 (Ne.symm hne)
  have h_12 : f_9 x = some (.inr (5, [.int ea1, .int eb1, .int ec1, .int ed0])) := mq_s e_10
  refine lv_aload_n hx hb dX0_become_24 rfl (lv_at hl 0 rfl) ?_
  refine lv_aload_n hx hb dX0_become_25 rfl (lv_at hl 1 rfl) ?_
  refine mq_get (ci := 5) (v := .int ed1) (C := RX0) (T := TX0) (N := 4) hx hb hts nX0 hown hK hM h_11 rfl 3 (by decide) w3 (fun _ h9 => h9) rfl dX0_become_26 ?_
  refine mq_put (ci := 5) (v := .int ed1) (ty := .int) (C := RX0) (T := TX0) (N := 4) (fs' := [.int ea1, .int eb1, .int ec1, .int ed1]) hx hb hts nX0 tyX0 tyX0_ok nmX0 hown hK hM hS h_12 rfl 3 (by decide) w3 (fun _ h9 => h9) rfl (by decide +kernel) rfl rfl (Nat.le_of_ble_eq_true rfl) dX0_become_29 rfl (fun f_13 H locs e_14 hM hS => ?_)
  have h_15 : f_13 y = some (.inr (5, [.int ea1, .int eb1, .int ec1, .int ed1])) := mq_n e_14 h_11 (Ne.symm hne)
  have h_16 : f_13 x = some (.inr (5, [.int ea1, .int eb1, .int ec1, .int ed1])) := mq_s e_14
  exact mq_vret hx hb hr hlocks hM hS (by rw [e_14, e_10, e_6, e_2]; (try simp only [mq_uu]); (try rfl)) dX0_become_32

set_option maxHeartbeats 4000000 in
set_option maxRecDepth 100000 in
theorem c_X0_isSameAs (l : Launch) (G : mq_G) (A : Nat → Prop) (f : mq_F) (x y : Nat) (ea0 eb0 ec0 ed0 : Int32) (ea1 eb1 ec1 ed1 : Int32) : Met l yX0_isSameAs wsX0_isSameAs ({ frames := 0, cells := 0, slots := 0, locals := 0 } : Room) (mq_Pc G A f (f x = some (cEq (ea0, eb0, ec0, ed0)) ∧ f y = some (cEq (ea1, eb1, ec1, ed1))) [.ref x, .ref y]) (mq_Qi G A (fun r g => f = g ∧ r = zb (decide (((ea0, eb0, ec0, ed0) : eqT) = (ea1, eb1, ec1, ed1))))) 0 0 A := by
  refine Met.ofW (cc := cX0_isSameAs) (maxL := 2) (ret := (some .boolean)) (by decide) rfl ?_
  intro p e s m args below meth c s₁ B hml hv
  obtain ⟨rfl, ⟨hK, hZ, hM, hA⟩, hp⟩ := hv
  have hx := B.exec
  have hb := B.bytes
  have hr := B.returns
  have hts := atoms_spec (ws := wsX0_isSameAs) B.pre
  have hown : s.vm.findClass RX0 = some m.cls := findClass_of_methodNamed B.named
  have hlocks := B.notSynchronized
  have hS : va_S A s.heap s.heap [] := va_S.rf
  have hl := lv_entry ([.ref x, .ref y]) (n := 2) (Nat.le_of_ble_eq_true rfl)
  rw [lg_entry_eq]
  generalize (lg_sl ([.ref x, .ref y]) ++ List.replicate (2 - (lg_sl ([.ref x, .ref y])).length) Slot.unset).toArray = ls at hl ⊢
  have hl : lv_has ls 2 [(0, .ref x), (1, .ref y)] := hl
  have w0 := hts (.fieldLink RX0 7 "Tutorlight$Equation" "a" "I") (List.mem_of_getElem? (i := 1) rfl)
  have w1 := hts (.fieldLink RX0 13 "Tutorlight$Equation" "b" "I") (List.mem_of_getElem? (i := 2) rfl)
  have w2 := hts (.fieldLink RX0 16 "Tutorlight$Equation" "c" "I") (List.mem_of_getElem? (i := 3) rfl)
  have w3 := hts (.fieldLink RX0 19 "Tutorlight$Equation" "d" "I") (List.mem_of_getElem? (i := 4) rfl)
  have nX0 : ∀ w ∈ wsX00, w ∈ wsX0_isSameAs := fun _ h => List.mem_cons_of_mem _ (List.mem_append_right _ h)
  obtain ⟨h0, h1⟩ := hp
  refine lv_aload_n hx hb dX0_isSameAs_0 rfl (lv_at hl 0 rfl) ?_
  refine mq_get (ci := 5) (v := .int ea0) (C := RX0) (T := TX0) (N := 4) hx hb hts nX0 hown hK hM h0 rfl 0 (by decide) w0 (fun _ h9 => h9) rfl dX0_isSameAs_1 ?_
  refine lv_aload_n hx hb dX0_isSameAs_4 rfl (lv_at hl 1 rfl) ?_
  refine mq_get (ci := 5) (v := .int ea1) (C := RX0) (T := TX0) (N := 4) hx hb hts nX0 hown hK hM h1 rfl 0 (by decide) w0 (fun _ h9 => h9) rfl dX0_isSameAs_5 ?_
  refine lv_icmp_ne (tgt := 48) hx hb dX0_isSameAs_8 (by decide) (fun c_8 => ?_) (fun c_8 => ?_)
  · refine lv_iconst (v := 0) hx hb dX0_isSameAs_48 (by decide) ?_
    exact mq_zret (v := 0) hx hb hr (rfl) hlocks hM hS (⟨rfl, by simp [zb, c_8]⟩) dX0_isSameAs_49
  · refine lv_aload_n hx hb dX0_isSameAs_11 rfl (lv_at hl 0 rfl) ?_
    refine mq_get (ci := 5) (v := .int eb0) (C := RX0) (T := TX0) (N := 4) hx hb hts nX0 hown hK hM h0 rfl 1 (by decide) w1 (fun _ h9 => h9) rfl dX0_isSameAs_12 ?_
    refine lv_aload_n hx hb dX0_isSameAs_15 rfl (lv_at hl 1 rfl) ?_
    refine mq_get (ci := 5) (v := .int eb1) (C := RX0) (T := TX0) (N := 4) hx hb hts nX0 hown hK hM h1 rfl 1 (by decide) w1 (fun _ h9 => h9) rfl dX0_isSameAs_16 ?_
    refine lv_icmp_ne (tgt := 48) hx hb dX0_isSameAs_19 (by decide) (fun c_19 => ?_) (fun c_19 => ?_)
    · refine lv_iconst (v := 0) hx hb dX0_isSameAs_48 (by decide) ?_
      exact mq_zret (v := 0) hx hb hr (rfl) hlocks hM hS (⟨rfl, by simp [zb, c_8, c_19]⟩) dX0_isSameAs_49
    · refine lv_aload_n hx hb dX0_isSameAs_22 rfl (lv_at hl 0 rfl) ?_
      refine mq_get (ci := 5) (v := .int ec0) (C := RX0) (T := TX0) (N := 4) hx hb hts nX0 hown hK hM h0 rfl 2 (by decide) w2 (fun _ h9 => h9) rfl dX0_isSameAs_23 ?_
      refine lv_aload_n hx hb dX0_isSameAs_26 rfl (lv_at hl 1 rfl) ?_
      refine mq_get (ci := 5) (v := .int ec1) (C := RX0) (T := TX0) (N := 4) hx hb hts nX0 hown hK hM h1 rfl 2 (by decide) w2 (fun _ h9 => h9) rfl dX0_isSameAs_27 ?_
      refine lv_icmp_ne (tgt := 48) hx hb dX0_isSameAs_30 (by decide) (fun c_30 => ?_) (fun c_30 => ?_)
      · refine lv_iconst (v := 0) hx hb dX0_isSameAs_48 (by decide) ?_
        exact mq_zret (v := 0) hx hb hr (rfl) hlocks hM hS (⟨rfl, by simp [zb, c_8, c_19, c_30]⟩) dX0_isSameAs_49
      · refine lv_aload_n hx hb dX0_isSameAs_33 rfl (lv_at hl 0 rfl) ?_
        refine mq_get (ci := 5) (v := .int ed0) (C := RX0) (T := TX0) (N := 4) hx hb hts nX0 hown hK hM h0 rfl 3 (by decide) w3 (fun _ h9 => h9) rfl dX0_isSameAs_34 ?_
        refine lv_aload_n hx hb dX0_isSameAs_37 rfl (lv_at hl 1 rfl) ?_
        refine mq_get (ci := 5) (v := .int ed1) (C := RX0) (T := TX0) (N := 4) hx hb hts nX0 hown hK hM h1 rfl 3 (by decide) w3 (fun _ h9 => h9) rfl dX0_isSameAs_38 ?_
        refine lv_icmp_ne (tgt := 48) hx hb dX0_isSameAs_41 (by decide) (fun c_41 => ?_) (fun c_41 => ?_)
        · refine lv_iconst (v := 0) hx hb dX0_isSameAs_48 (by decide) ?_
          exact mq_zret (v := 0) hx hb hr (rfl) hlocks hM hS (⟨rfl, by simp [zb, c_8, c_19, c_30, c_41]⟩) dX0_isSameAs_49
        · refine lv_iconst (v := 1) hx hb dX0_isSameAs_44 (by decide) ?_
          refine lv_goto (tgt := 49) hx hb dX0_isSameAs_45 (by decide) ?_
          exact mq_zret (v := 1) hx hb hr (rfl) hlocks hM hS (⟨rfl, by simp [zb, c_8, c_19, c_30, c_41]⟩) dX0_isSameAs_49

set_option maxHeartbeats 4000000 in
set_option maxRecDepth 100000 in
theorem c_X0_isSolved (l : Launch) (G : mq_G) (A : Nat → Prop) (f : mq_F) (x : Nat) (ea eb ec ed : Int32) : Met l yX0_isSolved wsX0_isSolved ({ frames := 0, cells := 0, slots := 0, locals := 0 } : Room) (mq_Pc G A f (f x = some (cEq (ea, eb, ec, ed))) [.ref x]) (mq_Qi G A (fun r g => f = g ∧ r = zb (decide (ea = 1 ∧ eb = 0 ∧ ec = 0)))) 0 0 A := by
  refine Met.ofW (cc := cX0_isSolved) (maxL := 1) (ret := (some .boolean)) (by decide) rfl ?_
  intro p e s m args below meth c s₁ B hml hv
  obtain ⟨rfl, ⟨hK, hZ, hM, hA⟩, hp⟩ := hv
  have hx := B.exec
  have hb := B.bytes
  have hr := B.returns
  have hts := atoms_spec (ws := wsX0_isSolved) B.pre
  have hown : s.vm.findClass RX0 = some m.cls := findClass_of_methodNamed B.named
  have hlocks := B.notSynchronized
  have hS : va_S A s.heap s.heap [] := va_S.rf
  have hl := lv_entry ([.ref x]) (n := 1) (Nat.le_of_ble_eq_true rfl)
  rw [lg_entry_eq]
  generalize (lg_sl ([.ref x]) ++ List.replicate (1 - (lg_sl ([.ref x])).length) Slot.unset).toArray = ls at hl ⊢
  have hl : lv_has ls 1 [(0, .ref x)] := hl
  have w0 := hts (.fieldLink RX0 7 "Tutorlight$Equation" "a" "I") (List.mem_of_getElem? (i := 1) rfl)
  have w1 := hts (.fieldLink RX0 13 "Tutorlight$Equation" "b" "I") (List.mem_of_getElem? (i := 2) rfl)
  have w2 := hts (.fieldLink RX0 16 "Tutorlight$Equation" "c" "I") (List.mem_of_getElem? (i := 3) rfl)
  have nX0 : ∀ w ∈ wsX00, w ∈ wsX0_isSolved := fun _ h => List.mem_cons_of_mem _ (List.mem_append_right _ h)
  refine lv_aload_n hx hb dX0_isSolved_0 rfl (lv_at hl 0 rfl) ?_
  refine mq_get (ci := 5) (v := .int ea) (C := RX0) (T := TX0) (N := 4) hx hb hts nX0 hown hK hM hp rfl 0 (by decide) w0 (fun _ h9 => h9) rfl dX0_isSolved_1 ?_
  refine lv_iconst (v := 1) hx hb dX0_isSolved_4 (by decide) ?_
  refine lv_icmp_ne (tgt := 26) hx hb dX0_isSolved_5 (by decide) (fun c_5 => ?_) (fun c_5 => ?_)
  · refine lv_iconst (v := 0) hx hb dX0_isSolved_26 (by decide) ?_
    exact mq_zret (v := 0) hx hb hr (rfl) hlocks hM hS (⟨rfl, by simp [zb, c_5]⟩) dX0_isSolved_27
  · refine lv_aload_n hx hb dX0_isSolved_8 rfl (lv_at hl 0 rfl) ?_
    refine mq_get (ci := 5) (v := .int eb) (C := RX0) (T := TX0) (N := 4) hx hb hts nX0 hown hK hM hp rfl 1 (by decide) w1 (fun _ h9 => h9) rfl dX0_isSolved_9 ?_
    refine lv_if_ne (tgt := 26) hx hb dX0_isSolved_12 (by decide) (fun c_12 => ?_) (fun c_12 => ?_)
    · refine lv_iconst (v := 0) hx hb dX0_isSolved_26 (by decide) ?_
      exact mq_zret (v := 0) hx hb hr (rfl) hlocks hM hS (⟨rfl, by simp [zb, c_5, c_12]⟩) dX0_isSolved_27
    · refine lv_aload_n hx hb dX0_isSolved_15 rfl (lv_at hl 0 rfl) ?_
      refine mq_get (ci := 5) (v := .int ec) (C := RX0) (T := TX0) (N := 4) hx hb hts nX0 hown hK hM hp rfl 2 (by decide) w2 (fun _ h9 => h9) rfl dX0_isSolved_16 ?_
      refine lv_if_ne (tgt := 26) hx hb dX0_isSolved_19 (by decide) (fun c_19 => ?_) (fun c_19 => ?_)
      · refine lv_iconst (v := 0) hx hb dX0_isSolved_26 (by decide) ?_
        exact mq_zret (v := 0) hx hb hr (rfl) hlocks hM hS (⟨rfl, by simp [zb, c_5, c_12, c_19]⟩) dX0_isSolved_27
      · refine lv_iconst (v := 1) hx hb dX0_isSolved_22 (by decide) ?_
        refine lv_goto (tgt := 27) hx hb dX0_isSolved_23 (by decide) ?_
        exact mq_zret (v := 1) hx hb hr (rfl) hlocks hM hS (⟨rfl, by simp [zb, c_5, c_12, c_19]⟩) dX0_isSolved_27

set_option maxHeartbeats 4000000 in
set_option maxRecDepth 100000 in
theorem c_X0_numberNamed (l : Launch) (G : mq_G) (A : Nat → Prop) (f : mq_F) (x : Nat) (ea eb ec ed : Int32) (k : Int32) : Met l yX0_numberNamed wsX0_numberNamed ({ frames := 0, cells := 0, slots := 0, locals := 0 } : Room) (mq_Pc G A f (f x = some (cEq (ea, eb, ec, ed)) ∧ (k = 97 ∨ k = 98 ∨ k = 99 ∨ k = 100)) [.ref x, .int k]) (mq_Qi G A (fun r g => f = g ∧ r = (if k = 97 then ea else if k = 98 then eb else if k = 99 then ec else ed))) 0 0 A := by
  refine Met.ofW (cc := cX0_numberNamed) (maxL := 2) (ret := (some .int)) (by decide) rfl ?_
  intro p e s m args below meth c s₁ B hml hv
  obtain ⟨rfl, ⟨hK, hZ, hM, hA⟩, hp⟩ := hv
  have hx := B.exec
  have hb := B.bytes
  have hr := B.returns
  have hts := atoms_spec (ws := wsX0_numberNamed) B.pre
  have hown : s.vm.findClass RX0 = some m.cls := findClass_of_methodNamed B.named
  have hlocks := B.notSynchronized
  have hS : va_S A s.heap s.heap [] := va_S.rf
  have hl := lv_entry ([.ref x, .int k]) (n := 2) (Nat.le_of_ble_eq_true rfl)
  rw [lg_entry_eq]
  generalize (lg_sl ([.ref x, .int k]) ++ List.replicate (2 - (lg_sl ([.ref x, .int k])).length) Slot.unset).toArray = ls at hl ⊢
  have hl : lv_has ls 2 [(0, .ref x), (1, .int k)] := hl
  have w0 := hts (.fieldLink RX0 7 "Tutorlight$Equation" "a" "I") (List.mem_of_getElem? (i := 1) rfl)
  have w1 := hts (.fieldLink RX0 13 "Tutorlight$Equation" "b" "I") (List.mem_of_getElem? (i := 2) rfl)
  have w2 := hts (.fieldLink RX0 16 "Tutorlight$Equation" "c" "I") (List.mem_of_getElem? (i := 3) rfl)
  have w3 := hts (.fieldLink RX0 19 "Tutorlight$Equation" "d" "I") (List.mem_of_getElem? (i := 4) rfl)
  have nX0 : ∀ w ∈ wsX00, w ∈ wsX0_numberNamed := fun _ h => List.mem_cons_of_mem _ (List.mem_append_right _ h)
  obtain ⟨h0, hk⟩ := hp
  refine lv_iload_n hx hb dX0_numberNamed_0 rfl (lv_at hl 1 rfl) ?_
  rcases hk with rfl | rfl | rfl | rfl
  · refine lv_tableIn (off := 27) (tgt := 28) hx hb dX0_numberNamed_1 (by decide) (by decide) (by decide) (by decide) ?_
    refine lv_aload_n hx hb dX0_numberNamed_28 rfl (lv_at hl 0 rfl) ?_
    refine mq_get (ci := 5) (v := .int ea) (C := RX0) (T := TX0) (N := 4) hx hb hts nX0 hown hK hM h0 rfl 0 (by decide) w0 (fun _ h9 => h9) rfl dX0_numberNamed_29 ?_
    exact mq_iret (v := ea) hx hb hr hlocks hM hS (⟨rfl, by simp⟩) dX0_numberNamed_32
  · refine lv_tableIn (off := 32) (tgt := 33) hx hb dX0_numberNamed_1 (by decide) (by decide) (by decide) (by decide) ?_
    refine lv_aload_n hx hb dX0_numberNamed_33 rfl (lv_at hl 0 rfl) ?_
    refine mq_get (ci := 5) (v := .int eb) (C := RX0) (T := TX0) (N := 4) hx hb hts nX0 hown hK hM h0 rfl 1 (by decide) w1 (fun _ h9 => h9) rfl dX0_numberNamed_34 ?_
    exact mq_iret (v := eb) hx hb hr hlocks hM hS (⟨rfl, by simp⟩) dX0_numberNamed_37
  · refine lv_tableIn (off := 37) (tgt := 38) hx hb dX0_numberNamed_1 (by decide) (by decide) (by decide) (by decide) ?_
    refine lv_aload_n hx hb dX0_numberNamed_38 rfl (lv_at hl 0 rfl) ?_
    refine mq_get (ci := 5) (v := .int ec) (C := RX0) (T := TX0) (N := 4) hx hb hts nX0 hown hK hM h0 rfl 2 (by decide) w2 (fun _ h9 => h9) rfl dX0_numberNamed_39 ?_
    exact mq_iret (v := ec) hx hb hr hlocks hM hS (⟨rfl, by simp⟩) dX0_numberNamed_42
  · refine lv_tableOut (tgt := 43) hx hb dX0_numberNamed_1 (by decide) (by decide) ?_
    refine lv_aload_n hx hb dX0_numberNamed_43 rfl (lv_at hl 0 rfl) ?_
    refine mq_get (ci := 5) (v := .int ed) (C := RX0) (T := TX0) (N := 4) hx hb hts nX0 hown hK hM h0 rfl 3 (by decide) w3 (fun _ h9 => h9) rfl dX0_numberNamed_44 ?_
    exact mq_iret (v := ed) hx hb hr hlocks hM hS (⟨rfl, by simp⟩) dX0_numberNamed_47

set_option maxHeartbeats 4000000 in
set_option maxRecDepth 100000 in
theorem c_X0_hasOnlySolution (l : Launch) (G : mq_G) (A : Nat → Prop) (f : mq_F) (x : Nat) (ea eb ec ed : Int32) (k : Int32) : Met l yX0_hasOnlySolution wsX0_hasOnlySolution ({ frames := 0, cells := 0, slots := 0, locals := 0 } : Room) (mq_Pc G A f (f x = some (cEq (ea, eb, ec, ed))) [.ref x, .int k]) (mq_Qi G A (fun r g => f = g ∧ r = zb (!decide (ea = ec) && decide ((ea - ec).toInt64 * k.toInt64 = (ed - eb).toInt64)))) 0 0 A := by
  refine Met.ofW (cc := cX0_hasOnlySolution) (maxL := 2) (ret := (some .boolean)) (by decide) rfl ?_
  intro p e s m args below meth c s₁ B hml hv
  obtain ⟨rfl, ⟨hK, hZ, hM, hA⟩, hp⟩ := hv
  have hx := B.exec
  have hb := B.bytes
  have hr := B.returns
  have hts := atoms_spec (ws := wsX0_hasOnlySolution) B.pre
  have hown : s.vm.findClass RX0 = some m.cls := findClass_of_methodNamed B.named
  have hlocks := B.notSynchronized
  have hS : va_S A s.heap s.heap [] := va_S.rf
  have hl := lv_entry ([.ref x, .int k]) (n := 2) (Nat.le_of_ble_eq_true rfl)
  rw [lg_entry_eq]
  generalize (lg_sl ([.ref x, .int k]) ++ List.replicate (2 - (lg_sl ([.ref x, .int k])).length) Slot.unset).toArray = ls at hl ⊢
  have hl : lv_has ls 2 [(0, .ref x), (1, .int k)] := hl
  have w0 := hts (.fieldLink RX0 7 "Tutorlight$Equation" "a" "I") (List.mem_of_getElem? (i := 1) rfl)
  have w1 := hts (.fieldLink RX0 16 "Tutorlight$Equation" "c" "I") (List.mem_of_getElem? (i := 2) rfl)
  have w2 := hts (.fieldLink RX0 19 "Tutorlight$Equation" "d" "I") (List.mem_of_getElem? (i := 3) rfl)
  have w3 := hts (.fieldLink RX0 13 "Tutorlight$Equation" "b" "I") (List.mem_of_getElem? (i := 4) rfl)
  have nX0 : ∀ w ∈ wsX00, w ∈ wsX0_hasOnlySolution := fun _ h => List.mem_cons_of_mem _ (List.mem_append_right _ h)
  refine lv_aload_n hx hb dX0_hasOnlySolution_0 rfl (lv_at hl 0 rfl) ?_
  refine mq_get (ci := 5) (v := .int ea) (C := RX0) (T := TX0) (N := 4) hx hb hts nX0 hown hK hM hp rfl 0 (by decide) w0 (fun _ h9 => h9) rfl dX0_hasOnlySolution_1 ?_
  refine lv_aload_n hx hb dX0_hasOnlySolution_4 rfl (lv_at hl 0 rfl) ?_
  refine mq_get (ci := 5) (v := .int ec) (C := RX0) (T := TX0) (N := 4) hx hb hts nX0 hown hK hM hp rfl 2 (by decide) w1 (fun _ h9 => h9) rfl dX0_hasOnlySolution_5 ?_
  refine lv_icmp_eq (tgt := 42) hx hb dX0_hasOnlySolution_8 (by decide) (fun c_8 => ?_) (fun c_8 => ?_)
  · refine lv_iconst (v := 0) hx hb dX0_hasOnlySolution_42 (by decide) ?_
    exact mq_zret (v := 0) hx hb hr (rfl) hlocks hM hS (⟨rfl, by simp [zb, c_8]⟩) dX0_hasOnlySolution_43
  · refine lv_aload_n hx hb dX0_hasOnlySolution_11 rfl (lv_at hl 0 rfl) ?_
    refine mq_get (ci := 5) (v := .int ea) (C := RX0) (T := TX0) (N := 4) hx hb hts nX0 hown hK hM hp rfl 0 (by decide) w0 (fun _ h9 => h9) rfl dX0_hasOnlySolution_12 ?_
    refine lv_aload_n hx hb dX0_hasOnlySolution_15 rfl (lv_at hl 0 rfl) ?_
    refine mq_get (ci := 5) (v := .int ec) (C := RX0) (T := TX0) (N := 4) hx hb hts nX0 hown hK hM hp rfl 2 (by decide) w1 (fun _ h9 => h9) rfl dX0_hasOnlySolution_16 ?_
    refine lv_isub hx hb dX0_hasOnlySolution_19 ?_
    refine lv_i2l hx hb dX0_hasOnlySolution_20 rfl ?_
    refine lv_iload_n hx hb dX0_hasOnlySolution_21 rfl (lv_at hl 1 rfl) ?_
    refine lv_i2l hx hb dX0_hasOnlySolution_22 rfl ?_
    refine lv_lmul hx hb dX0_hasOnlySolution_23 ?_
    refine lv_aload_n hx hb dX0_hasOnlySolution_24 rfl (lv_at hl 0 rfl) ?_
    refine mq_get (ci := 5) (v := .int ed) (C := RX0) (T := TX0) (N := 4) hx hb hts nX0 hown hK hM hp rfl 3 (by decide) w2 (fun _ h9 => h9) rfl dX0_hasOnlySolution_25 ?_
    refine lv_aload_n hx hb dX0_hasOnlySolution_28 rfl (lv_at hl 0 rfl) ?_
    refine mq_get (ci := 5) (v := .int eb) (C := RX0) (T := TX0) (N := 4) hx hb hts nX0 hown hK hM hp rfl 1 (by decide) w3 (fun _ h9 => h9) rfl dX0_hasOnlySolution_29 ?_
    refine lv_isub hx hb dX0_hasOnlySolution_32 ?_
    refine lv_i2l hx hb dX0_hasOnlySolution_33 rfl ?_
    refine W.lcmp hx hb dX0_hasOnlySolution_34 ?_
    refine lv_if_ne (tgt := 42) hx hb dX0_hasOnlySolution_35 (by decide) (fun c_35 => ?_) (fun c_35 => ?_)
    · rw [lg_cmp_eq] at c_35
      refine lv_iconst (v := 0) hx hb dX0_hasOnlySolution_42 (by decide) ?_
      exact mq_zret (v := 0) hx hb hr (rfl) hlocks hM hS (⟨rfl, by simp [zb, c_8, c_35]⟩) dX0_hasOnlySolution_43
    · rw [lg_cmp_eq] at c_35
      refine lv_iconst (v := 1) hx hb dX0_hasOnlySolution_38 (by decide) ?_
      refine lv_goto (tgt := 43) hx hb dX0_hasOnlySolution_39 (by decide) ?_
      exact mq_zret (v := 1) hx hb hr (rfl) hlocks hM hS (⟨rfl, by simp [zb, c_8, c_35]⟩) dX0_hasOnlySolution_43

set_option maxHeartbeats 4000000 in
set_option maxRecDepth 100000 in
theorem c_X0_hasSameSolutionsAs (l : Launch) (G : mq_G) (A : Nat → Prop) (f : mq_F) (x y : Nat) (ea0 eb0 ec0 ed0 : Int32) (ea1 eb1 ec1 ed1 : Int32) : Met l yX0_hasSameSolutionsAs wsX0_hasSameSolutionsAs ({ frames := 0, cells := 0, slots := 0, locals := 0 } : Room) (mq_Pc G A f (f x = some (cEq (ea0, eb0, ec0, ed0)) ∧ f y = some (cEq (ea1, eb1, ec1, ed1))) [.ref x, .ref y]) (mq_Qi G A (fun r g => f = g ∧ r = zb (eq_same (ea0, eb0, ec0, ed0) (ea1, eb1, ec1, ed1)))) 0 0 A := by
  refine Met.ofW (cc := cX0_hasSameSolutionsAs) (maxL := 10) (ret := (some .boolean)) (by decide) rfl ?_
  intro p e s m args below meth c s₁ B hml hv
  obtain ⟨rfl, ⟨hK, hZ, hM, hA⟩, hp⟩ := hv
  have hx := B.exec
  have hb := B.bytes
  have hr := B.returns
  have hts := atoms_spec (ws := wsX0_hasSameSolutionsAs) B.pre
  have hown : s.vm.findClass RX0 = some m.cls := findClass_of_methodNamed B.named
  have hlocks := B.notSynchronized
  have hS : va_S A s.heap s.heap [] := va_S.rf
  have hl := lv_entry ([.ref x, .ref y]) (n := 10) (Nat.le_of_ble_eq_true rfl)
  rw [lg_entry_eq]
  generalize (lg_sl ([.ref x, .ref y]) ++ List.replicate (10 - (lg_sl ([.ref x, .ref y])).length) Slot.unset).toArray = ls at hl ⊢
  have hl : lv_has ls 10 [(0, .ref x), (1, .ref y)] := hl
  have w0 := hts (.fieldLink RX0 7 "Tutorlight$Equation" "a" "I") (List.mem_of_getElem? (i := 1) rfl)
  have w1 := hts (.fieldLink RX0 16 "Tutorlight$Equation" "c" "I") (List.mem_of_getElem? (i := 2) rfl)
  have w2 := hts (.fieldLink RX0 19 "Tutorlight$Equation" "d" "I") (List.mem_of_getElem? (i := 3) rfl)
  have w3 := hts (.fieldLink RX0 13 "Tutorlight$Equation" "b" "I") (List.mem_of_getElem? (i := 4) rfl)
  have nX0 : ∀ w ∈ wsX00, w ∈ wsX0_hasSameSolutionsAs := fun _ h => List.mem_cons_of_mem _ (List.mem_append_right _ h)
  obtain ⟨h0, h1⟩ := hp
  refine lv_aload_n hx hb dX0_hasSameSolutionsAs_0 rfl (lv_at hl 0 rfl) ?_
  refine mq_get (ci := 5) (v := .int ea0) (C := RX0) (T := TX0) (N := 4) hx hb hts nX0 hown hK hM h0 rfl 0 (by decide) w0 (fun _ h9 => h9) rfl dX0_hasSameSolutionsAs_1 ?_
  refine lv_aload_n hx hb dX0_hasSameSolutionsAs_4 rfl (lv_at hl 0 rfl) ?_
  refine mq_get (ci := 5) (v := .int ec0) (C := RX0) (T := TX0) (N := 4) hx hb hts nX0 hown hK hM h0 rfl 2 (by decide) w1 (fun _ h9 => h9) rfl dX0_hasSameSolutionsAs_5 ?_
  refine lv_isub hx hb dX0_hasSameSolutionsAs_8 ?_
  refine lv_i2l hx hb dX0_hasSameSolutionsAs_9 rfl ?_
  refine lv_lstore_n (lv' := [(2, .long ((ea0 - ec0).toInt64)), (0, .ref x), (1, .ref y)]) hx hb dX0_hasSameSolutionsAs_10 rfl hl (by decide) rfl (fun ls hl => ?_)
  refine lv_aload_n hx hb dX0_hasSameSolutionsAs_11 rfl (lv_at hl 1 rfl) ?_
  refine mq_get (ci := 5) (v := .int ed0) (C := RX0) (T := TX0) (N := 4) hx hb hts nX0 hown hK hM h0 rfl 3 (by decide) w2 (fun _ h9 => h9) rfl dX0_hasSameSolutionsAs_12 ?_
  refine lv_aload_n hx hb dX0_hasSameSolutionsAs_15 rfl (lv_at hl 1 rfl) ?_
  refine mq_get (ci := 5) (v := .int eb0) (C := RX0) (T := TX0) (N := 4) hx hb hts nX0 hown hK hM h0 rfl 1 (by decide) w3 (fun _ h9 => h9) rfl dX0_hasSameSolutionsAs_16 ?_
  refine lv_isub hx hb dX0_hasSameSolutionsAs_19 ?_
  refine lv_i2l hx hb dX0_hasSameSolutionsAs_20 rfl ?_
  refine lv_lstore (lv' := [(4, .long ((ed0 - eb0).toInt64)), (2, .long ((ea0 - ec0).toInt64)), (0, .ref x), (1, .ref y)]) hx hb dX0_hasSameSolutionsAs_21 hl (by decide) rfl (fun ls hl => ?_)
  refine lv_aload_n hx hb dX0_hasSameSolutionsAs_23 rfl (lv_at hl 3 rfl) ?_
  refine mq_get (ci := 5) (v := .int ea1) (C := RX0) (T := TX0) (N := 4) hx hb hts nX0 hown hK hM h1 rfl 0 (by decide) w0 (fun _ h9 => h9) rfl dX0_hasSameSolutionsAs_24 ?_
  refine lv_aload_n hx hb dX0_hasSameSolutionsAs_27 rfl (lv_at hl 3 rfl) ?_
  refine mq_get (ci := 5) (v := .int ec1) (C := RX0) (T := TX0) (N := 4) hx hb hts nX0 hown hK hM h1 rfl 2 (by decide) w1 (fun _ h9 => h9) rfl dX0_hasSameSolutionsAs_28 ?_
  refine lv_isub hx hb dX0_hasSameSolutionsAs_31 ?_
  refine lv_i2l hx hb dX0_hasSameSolutionsAs_32 rfl ?_
  refine lv_lstore (lv' := [(6, .long ((ea1 - ec1).toInt64)), (4, .long ((ed0 - eb0).toInt64)), (2, .long ((ea0 - ec0).toInt64)), (0, .ref x), (1, .ref y)]) hx hb dX0_hasSameSolutionsAs_33 hl (by decide) rfl (fun ls hl => ?_)
  refine lv_aload_n hx hb dX0_hasSameSolutionsAs_35 rfl (lv_at hl 4 rfl) ?_
  refine mq_get (ci := 5) (v := .int ed1) (C := RX0) (T := TX0) (N := 4) hx hb hts nX0 hown hK hM h1 rfl 3 (by decide) w2 (fun _ h9 => h9) rfl dX0_hasSameSolutionsAs_36 ?_
  refine lv_aload_n hx hb dX0_hasSameSolutionsAs_39 rfl (lv_at hl 4 rfl) ?_
  refine mq_get (ci := 5) (v := .int eb1) (C := RX0) (T := TX0) (N := 4) hx hb hts nX0 hown hK hM h1 rfl 1 (by decide) w3 (fun _ h9 => h9) rfl dX0_hasSameSolutionsAs_40 ?_
  refine lv_isub hx hb dX0_hasSameSolutionsAs_43 ?_
  refine lv_i2l hx hb dX0_hasSameSolutionsAs_44 rfl ?_
  refine lv_lstore (lv' := [(8, .long ((ed1 - eb1).toInt64)), (6, .long ((ea1 - ec1).toInt64)), (4, .long ((ed0 - eb0).toInt64)), (2, .long ((ea0 - ec0).toInt64)), (0, .ref x), (1, .ref y)]) hx hb dX0_hasSameSolutionsAs_45 hl (by decide) rfl (fun ls hl => ?_)
  refine lv_lload_n hx hb dX0_hasSameSolutionsAs_47 rfl (lv_at hl 3 rfl) ?_
  refine lv_lconst (v := 0) hx hb dX0_hasSameSolutionsAs_48 (by decide) ?_
  refine W.lcmp hx hb dX0_hasSameSolutionsAs_49 ?_
  refine lv_if_eq (tgt := 60) hx hb dX0_hasSameSolutionsAs_50 (by decide) (fun c_50 => ?_) (fun c_50 => ?_)
  · rw [lg_cmp_eq] at c_50
    refine lv_lload_n hx hb dX0_hasSameSolutionsAs_60 rfl (lv_at hl 3 rfl) ?_
    refine lv_lload hx hb dX0_hasSameSolutionsAs_61 (lv_at hl 1 rfl) ?_
    refine W.lcmp hx hb dX0_hasSameSolutionsAs_63 ?_
    refine lv_if_ne (tgt := 98) hx hb dX0_hasSameSolutionsAs_64 (by decide) (fun c_64 => ?_) (fun c_64 => ?_)
    · rw [lg_cmp_eq] at c_64
      refine lv_iconst (v := 0) hx hb dX0_hasSameSolutionsAs_98 (by decide) ?_
      exact mq_zret (v := 0) hx hb hr (rfl) hlocks hM hS (⟨rfl, by rw [eq_same, fol_zz (by simp [c_50])]; simp [zb, c_64]⟩) dX0_hasSameSolutionsAs_99
    · rw [lg_cmp_eq] at c_64
      refine lv_lload hx hb dX0_hasSameSolutionsAs_67 (lv_at hl 2 rfl) ?_
      refine lv_lconst (v := 0) hx hb dX0_hasSameSolutionsAs_69 (by decide) ?_
      refine W.lcmp hx hb dX0_hasSameSolutionsAs_70 ?_
      refine lv_if_ne (tgt := 78) hx hb dX0_hasSameSolutionsAs_71 (by decide) (fun c_71 => ?_) (fun c_71 => ?_)
      · rw [lg_cmp_eq] at c_71
        refine lv_iconst (v := 0) hx hb dX0_hasSameSolutionsAs_78 (by decide) ?_
        refine lv_lload hx hb dX0_hasSameSolutionsAs_79 (lv_at hl 0 rfl) ?_
        refine lv_lconst (v := 0) hx hb dX0_hasSameSolutionsAs_81 (by decide) ?_
        refine W.lcmp hx hb dX0_hasSameSolutionsAs_82 ?_
        refine lv_if_ne (tgt := 90) hx hb dX0_hasSameSolutionsAs_83 (by decide) (fun c_83 => ?_) (fun c_83 => ?_)
        · rw [lg_cmp_eq] at c_83
          refine lv_iconst (v := 0) hx hb dX0_hasSameSolutionsAs_90 (by decide) ?_
          refine lv_icmp_ne (tgt := 98) hx hb dX0_hasSameSolutionsAs_91 (by decide) (fun c_91 => absurd c_91 (by decide)) (fun c_91 => ?_)
          refine lv_iconst (v := 1) hx hb dX0_hasSameSolutionsAs_94 (by decide) ?_
          refine lv_goto (tgt := 99) hx hb dX0_hasSameSolutionsAs_95 (by decide) ?_
          exact mq_zret (v := 1) hx hb hr (rfl) hlocks hM hS (⟨rfl, by rw [eq_same, fol_zz (by simp [c_50])]; simp [zb, c_64, c_71, c_83]⟩) dX0_hasSameSolutionsAs_99
        · rw [lg_cmp_eq] at c_83
          refine lv_iconst (v := 1) hx hb dX0_hasSameSolutionsAs_86 (by decide) ?_
          refine lv_goto (tgt := 91) hx hb dX0_hasSameSolutionsAs_87 (by decide) ?_
          refine lv_icmp_ne (tgt := 98) hx hb dX0_hasSameSolutionsAs_91 (by decide) (fun c_91 => ?_) (fun c_91 => absurd c_91 (by decide))
          refine lv_iconst (v := 0) hx hb dX0_hasSameSolutionsAs_98 (by decide) ?_
          exact mq_zret (v := 0) hx hb hr (rfl) hlocks hM hS (⟨rfl, by rw [eq_same, fol_zz (by simp [c_50])]; simp [zb, c_64, c_71, c_83]⟩) dX0_hasSameSolutionsAs_99
      · rw [lg_cmp_eq] at c_71
        refine lv_iconst (v := 1) hx hb dX0_hasSameSolutionsAs_74 (by decide) ?_
        refine lv_goto (tgt := 79) hx hb dX0_hasSameSolutionsAs_75 (by decide) ?_
        refine lv_lload hx hb dX0_hasSameSolutionsAs_79 (lv_at hl 0 rfl) ?_
        refine lv_lconst (v := 0) hx hb dX0_hasSameSolutionsAs_81 (by decide) ?_
        refine W.lcmp hx hb dX0_hasSameSolutionsAs_82 ?_
        refine lv_if_ne (tgt := 90) hx hb dX0_hasSameSolutionsAs_83 (by decide) (fun c_83 => ?_) (fun c_83 => ?_)
        · rw [lg_cmp_eq] at c_83
          refine lv_iconst (v := 0) hx hb dX0_hasSameSolutionsAs_90 (by decide) ?_
          refine lv_icmp_ne (tgt := 98) hx hb dX0_hasSameSolutionsAs_91 (by decide) (fun c_91 => ?_) (fun c_91 => absurd c_91 (by decide))
          refine lv_iconst (v := 0) hx hb dX0_hasSameSolutionsAs_98 (by decide) ?_
          exact mq_zret (v := 0) hx hb hr (rfl) hlocks hM hS (⟨rfl, by rw [eq_same, fol_zz (by simp [c_50])]; simp [zb, c_64, c_71, c_83]⟩) dX0_hasSameSolutionsAs_99
        · rw [lg_cmp_eq] at c_83
          refine lv_iconst (v := 1) hx hb dX0_hasSameSolutionsAs_86 (by decide) ?_
          refine lv_goto (tgt := 91) hx hb dX0_hasSameSolutionsAs_87 (by decide) ?_
          refine lv_icmp_ne (tgt := 98) hx hb dX0_hasSameSolutionsAs_91 (by decide) (fun c_91 => absurd c_91 (by decide)) (fun c_91 => ?_)
          refine lv_iconst (v := 1) hx hb dX0_hasSameSolutionsAs_94 (by decide) ?_
          refine lv_goto (tgt := 99) hx hb dX0_hasSameSolutionsAs_95 (by decide) ?_
          exact mq_zret (v := 1) hx hb hr (rfl) hlocks hM hS (⟨rfl, by rw [eq_same, fol_zz (by simp [c_50])]; simp [zb, c_64, c_71, c_83]⟩) dX0_hasSameSolutionsAs_99
  · rw [lg_cmp_eq] at c_50
    refine lv_lload hx hb dX0_hasSameSolutionsAs_53 (lv_at hl 1 rfl) ?_
    refine lv_lconst (v := 0) hx hb dX0_hasSameSolutionsAs_55 (by decide) ?_
    refine W.lcmp hx hb dX0_hasSameSolutionsAs_56 ?_
    refine lv_if_ne (tgt := 100) hx hb dX0_hasSameSolutionsAs_57 (by decide) (fun c_57 => ?_) (fun c_57 => ?_)
    · rw [lg_cmp_eq] at c_57
      refine lv_lload hx hb dX0_hasSameSolutionsAs_100 (lv_at hl 2 rfl) ?_
      refine lv_lload hx hb dX0_hasSameSolutionsAs_102 (lv_at hl 1 rfl) ?_
      refine lv_lmul hx hb dX0_hasSameSolutionsAs_104 ?_
      refine lv_lload hx hb dX0_hasSameSolutionsAs_105 (lv_at hl 0 rfl) ?_
      refine lv_lload_n hx hb dX0_hasSameSolutionsAs_107 rfl (lv_at hl 3 rfl) ?_
      refine lv_lmul hx hb dX0_hasSameSolutionsAs_108 ?_
      refine W.lcmp hx hb dX0_hasSameSolutionsAs_109 ?_
      refine lv_if_ne (tgt := 117) hx hb dX0_hasSameSolutionsAs_110 (by decide) (fun c_110 => ?_) (fun c_110 => ?_)
      · rw [lg_cmp_eq] at c_110
        refine lv_iconst (v := 0) hx hb dX0_hasSameSolutionsAs_117 (by decide) ?_
        exact mq_zret (v := 0) hx hb hr (rfl) hlocks hM hS (⟨rfl, by rw [eq_same, fol_nz (by simp [c_50, c_57])]; simp [zb, c_110]⟩) dX0_hasSameSolutionsAs_118
      · rw [lg_cmp_eq] at c_110
        refine lv_iconst (v := 1) hx hb dX0_hasSameSolutionsAs_113 (by decide) ?_
        refine lv_goto (tgt := 118) hx hb dX0_hasSameSolutionsAs_114 (by decide) ?_
        exact mq_zret (v := 1) hx hb hr (rfl) hlocks hM hS (⟨rfl, by rw [eq_same, fol_nz (by simp [c_50, c_57])]; simp [zb, c_110]⟩) dX0_hasSameSolutionsAs_118
    · rw [lg_cmp_eq] at c_57
      refine lv_lload_n hx hb dX0_hasSameSolutionsAs_60 rfl (lv_at hl 3 rfl) ?_
      refine lv_lload hx hb dX0_hasSameSolutionsAs_61 (lv_at hl 1 rfl) ?_
      refine W.lcmp hx hb dX0_hasSameSolutionsAs_63 ?_
      refine lv_if_ne (tgt := 98) hx hb dX0_hasSameSolutionsAs_64 (by decide) (fun c_64 => ?_) (fun c_64 => ?_)
      · rw [lg_cmp_eq] at c_64
        refine lv_iconst (v := 0) hx hb dX0_hasSameSolutionsAs_98 (by decide) ?_
        exact mq_zret (v := 0) hx hb hr (rfl) hlocks hM hS (⟨rfl, by rw [eq_same, fol_zz (by simp [c_50, c_57])]; simp [zb, c_64]⟩) dX0_hasSameSolutionsAs_99
      · rw [lg_cmp_eq] at c_64
        refine lv_lload hx hb dX0_hasSameSolutionsAs_67 (lv_at hl 2 rfl) ?_
        refine lv_lconst (v := 0) hx hb dX0_hasSameSolutionsAs_69 (by decide) ?_
        refine W.lcmp hx hb dX0_hasSameSolutionsAs_70 ?_
        refine lv_if_ne (tgt := 78) hx hb dX0_hasSameSolutionsAs_71 (by decide) (fun c_71 => ?_) (fun c_71 => ?_)
        · rw [lg_cmp_eq] at c_71
          refine lv_iconst (v := 0) hx hb dX0_hasSameSolutionsAs_78 (by decide) ?_
          refine lv_lload hx hb dX0_hasSameSolutionsAs_79 (lv_at hl 0 rfl) ?_
          refine lv_lconst (v := 0) hx hb dX0_hasSameSolutionsAs_81 (by decide) ?_
          refine W.lcmp hx hb dX0_hasSameSolutionsAs_82 ?_
          refine lv_if_ne (tgt := 90) hx hb dX0_hasSameSolutionsAs_83 (by decide) (fun c_83 => ?_) (fun c_83 => ?_)
          · rw [lg_cmp_eq] at c_83
            refine lv_iconst (v := 0) hx hb dX0_hasSameSolutionsAs_90 (by decide) ?_
            refine lv_icmp_ne (tgt := 98) hx hb dX0_hasSameSolutionsAs_91 (by decide) (fun c_91 => absurd c_91 (by decide)) (fun c_91 => ?_)
            refine lv_iconst (v := 1) hx hb dX0_hasSameSolutionsAs_94 (by decide) ?_
            refine lv_goto (tgt := 99) hx hb dX0_hasSameSolutionsAs_95 (by decide) ?_
            exact mq_zret (v := 1) hx hb hr (rfl) hlocks hM hS (⟨rfl, by rw [eq_same, fol_zz (by simp [c_50, c_57])]; simp [zb, c_64, c_71, c_83]⟩) dX0_hasSameSolutionsAs_99
          · rw [lg_cmp_eq] at c_83
            refine lv_iconst (v := 1) hx hb dX0_hasSameSolutionsAs_86 (by decide) ?_
            refine lv_goto (tgt := 91) hx hb dX0_hasSameSolutionsAs_87 (by decide) ?_
            refine lv_icmp_ne (tgt := 98) hx hb dX0_hasSameSolutionsAs_91 (by decide) (fun c_91 => ?_) (fun c_91 => absurd c_91 (by decide))
            refine lv_iconst (v := 0) hx hb dX0_hasSameSolutionsAs_98 (by decide) ?_
            exact mq_zret (v := 0) hx hb hr (rfl) hlocks hM hS (⟨rfl, by rw [eq_same, fol_zz (by simp [c_50, c_57])]; simp [zb, c_64, c_71, c_83]⟩) dX0_hasSameSolutionsAs_99
        · rw [lg_cmp_eq] at c_71
          refine lv_iconst (v := 1) hx hb dX0_hasSameSolutionsAs_74 (by decide) ?_
          refine lv_goto (tgt := 79) hx hb dX0_hasSameSolutionsAs_75 (by decide) ?_
          refine lv_lload hx hb dX0_hasSameSolutionsAs_79 (lv_at hl 0 rfl) ?_
          refine lv_lconst (v := 0) hx hb dX0_hasSameSolutionsAs_81 (by decide) ?_
          refine W.lcmp hx hb dX0_hasSameSolutionsAs_82 ?_
          refine lv_if_ne (tgt := 90) hx hb dX0_hasSameSolutionsAs_83 (by decide) (fun c_83 => ?_) (fun c_83 => ?_)
          · rw [lg_cmp_eq] at c_83
            refine lv_iconst (v := 0) hx hb dX0_hasSameSolutionsAs_90 (by decide) ?_
            refine lv_icmp_ne (tgt := 98) hx hb dX0_hasSameSolutionsAs_91 (by decide) (fun c_91 => ?_) (fun c_91 => absurd c_91 (by decide))
            refine lv_iconst (v := 0) hx hb dX0_hasSameSolutionsAs_98 (by decide) ?_
            exact mq_zret (v := 0) hx hb hr (rfl) hlocks hM hS (⟨rfl, by rw [eq_same, fol_zz (by simp [c_50, c_57])]; simp [zb, c_64, c_71, c_83]⟩) dX0_hasSameSolutionsAs_99
          · rw [lg_cmp_eq] at c_83
            refine lv_iconst (v := 1) hx hb dX0_hasSameSolutionsAs_86 (by decide) ?_
            refine lv_goto (tgt := 91) hx hb dX0_hasSameSolutionsAs_87 (by decide) ?_
            refine lv_icmp_ne (tgt := 98) hx hb dX0_hasSameSolutionsAs_91 (by decide) (fun c_91 => absurd c_91 (by decide)) (fun c_91 => ?_)
            refine lv_iconst (v := 1) hx hb dX0_hasSameSolutionsAs_94 (by decide) ?_
            refine lv_goto (tgt := 99) hx hb dX0_hasSameSolutionsAs_95 (by decide) ?_
            exact mq_zret (v := 1) hx hb hr (rfl) hlocks hM hS (⟨rfl, by rw [eq_same, fol_zz (by simp [c_50, c_57])]; simp [zb, c_64, c_71, c_83]⟩) dX0_hasSameSolutionsAs_99

set_option maxHeartbeats 4000000 in
set_option maxRecDepth 100000 in
theorem c_X0_takeBRight (l : Launch) (G : mq_G) (A : Nat → Prop) (f : mq_F) (x : Nat) (ea eb ec ed : Int32) (z : Bool) : Met l yX0_takeBRight wsX0_takeBRight ({ frames := 0, cells := 0, slots := 0, locals := 0 } : Room) (mq_Pc G A f (f x = some (cEq (ea, eb, ec, ed))) [.ref x, .int (zb z)]) (mq_Qv G A (fun g => g = mq_up f x (cEq (eq_tB z (ea, eb, ec, ed))))) 0 0 A := by
  refine Met.ofW (cc := cX0_takeBRight) (maxL := 2) (ret := none) (by decide) rfl ?_
  intro p e s m args below meth c s₁ B hml hv
  obtain ⟨rfl, ⟨hK, hZ, hM, hA⟩, hp⟩ := hv
  have hx := B.exec
  have hb := B.bytes
  have hr := B.returns
  have hts := atoms_spec (ws := wsX0_takeBRight) B.pre
  have hown : s.vm.findClass RX0 = some m.cls := findClass_of_methodNamed B.named
  have hlocks := B.notSynchronized
  have hS : va_S A s.heap s.heap [] := va_S.rf
  have hl := lv_entry ([.ref x, .int (zb z)]) (n := 2) (Nat.le_of_ble_eq_true rfl)
  rw [lg_entry_eq]
  generalize (lg_sl ([.ref x, .int (zb z)]) ++ List.replicate (2 - (lg_sl ([.ref x, .int (zb z)])).length) Slot.unset).toArray = ls at hl ⊢
  have hl : lv_has ls 2 [(0, .ref x), (1, .int (zb z))] := hl
  have w0 := hts (.fieldLink RX0 19 "Tutorlight$Equation" "d" "I") (List.mem_of_getElem? (i := 1) rfl)
  have w1 := hts (.fieldLink RX0 13 "Tutorlight$Equation" "b" "I") (List.mem_of_getElem? (i := 2) rfl)
  have nX0 : ∀ w ∈ wsX00, w ∈ wsX0_takeBRight := fun _ h => List.mem_cons_of_mem _ (List.mem_append_right _ h)
  refine lv_aload_n hx hb dX0_takeBRight_0 rfl (lv_at hl 0 rfl) ?_
  refine lv_iload_n hx hb dX0_takeBRight_1 rfl (lv_at hl 1 rfl) ?_
  refine lv_if_eq (tgt := 17) hx hb dX0_takeBRight_2 (by decide) (fun c_2 => ?_) (fun c_2 => ?_)
  · rw [zb_0] at c_2
    subst c_2
    refine lv_aload_n hx hb dX0_takeBRight_17 rfl (lv_at hl 0 rfl) ?_
    refine mq_get (ci := 5) (v := .int ed) (C := RX0) (T := TX0) (N := 4) hx hb hts nX0 hown hK hM hp rfl 3 (by decide) w0 (fun _ h9 => h9) rfl dX0_takeBRight_18 ?_
    refine lv_aload_n hx hb dX0_takeBRight_21 rfl (lv_at hl 0 rfl) ?_
    refine mq_get (ci := 5) (v := .int eb) (C := RX0) (T := TX0) (N := 4) hx hb hts nX0 hown hK hM hp rfl 1 (by decide) w1 (fun _ h9 => h9) rfl dX0_takeBRight_22 ?_
    refine lv_isub hx hb dX0_takeBRight_25 ?_
    refine mq_put (ci := 5) (v := .int (ed - eb)) (ty := .int) (C := RX0) (T := TX0) (N := 4) (fs' := [.int ea, .int eb, .int ec, .int (ed - eb)]) hx hb hts nX0 tyX0 tyX0_ok nmX0 hown hK hM hS hp rfl 3 (by decide) w0 (fun _ h9 => h9) rfl (by decide +kernel) rfl rfl (Nat.le_of_ble_eq_true rfl) dX0_takeBRight_26 rfl (fun f_1 H locs e_2 hM hS => ?_)
    have h_3 : f_1 x = some (.inr (5, [.int ea, .int eb, .int ec, .int (ed - eb)])) := mq_s e_2
    refine lv_aload_n hx hb dX0_takeBRight_29 rfl (lv_at hl 0 rfl) ?_
    refine lv_iconst (v := 0) hx hb dX0_takeBRight_30 (by decide) ?_
    refine mq_put (ci := 5) (v := .int 0) (ty := .int) (C := RX0) (T := TX0) (N := 4) (fs' := [.int ea, .int 0, .int ec, .int (ed - eb)]) hx hb hts nX0 tyX0 tyX0_ok nmX0 hown hK hM hS h_3 rfl 1 (by decide) w1 (fun _ h9 => h9) rfl (by decide +kernel) rfl rfl (Nat.le_of_ble_eq_true rfl) dX0_takeBRight_31 rfl (fun f_4 H locs e_5 hM hS => ?_)
    have h_6 : f_4 x = some (.inr (5, [.int ea, .int 0, .int ec, .int (ed - eb)])) := mq_s e_5
    exact mq_vret hx hb hr hlocks hM hS (by rw [e_5, e_2]; (try simp only [mq_uu]); (try rfl)) dX0_takeBRight_34
  · rw [zb_n0] at c_2
    subst c_2
    refine lv_aload_n hx hb dX0_takeBRight_5 rfl (lv_at hl 0 rfl) ?_
    refine mq_get (ci := 5) (v := .int ed) (C := RX0) (T := TX0) (N := 4) hx hb hts nX0 hown hK hM hp rfl 3 (by decide) w0 (fun _ h9 => h9) rfl dX0_takeBRight_6 ?_
    refine lv_aload_n hx hb dX0_takeBRight_9 rfl (lv_at hl 0 rfl) ?_
    refine mq_get (ci := 5) (v := .int eb) (C := RX0) (T := TX0) (N := 4) hx hb hts nX0 hown hK hM hp rfl 1 (by decide) w1 (fun _ h9 => h9) rfl dX0_takeBRight_10 ?_
    refine lv_iadd hx hb dX0_takeBRight_13 ?_
    refine lv_goto (tgt := 26) hx hb dX0_takeBRight_14 (by decide) ?_
    refine mq_put (ci := 5) (v := .int (ed + eb)) (ty := .int) (C := RX0) (T := TX0) (N := 4) (fs' := [.int ea, .int eb, .int ec, .int (ed + eb)]) hx hb hts nX0 tyX0 tyX0_ok nmX0 hown hK hM hS hp rfl 3 (by decide) w0 (fun _ h9 => h9) rfl (by decide +kernel) rfl rfl (Nat.le_of_ble_eq_true rfl) dX0_takeBRight_26 rfl (fun f_7 H locs e_8 hM hS => ?_)
    have h_9 : f_7 x = some (.inr (5, [.int ea, .int eb, .int ec, .int (ed + eb)])) := mq_s e_8
    refine lv_aload_n hx hb dX0_takeBRight_29 rfl (lv_at hl 0 rfl) ?_
    refine lv_iconst (v := 0) hx hb dX0_takeBRight_30 (by decide) ?_
    refine mq_put (ci := 5) (v := .int 0) (ty := .int) (C := RX0) (T := TX0) (N := 4) (fs' := [.int ea, .int 0, .int ec, .int (ed + eb)]) hx hb hts nX0 tyX0 tyX0_ok nmX0 hown hK hM hS h_9 rfl 1 (by decide) w1 (fun _ h9 => h9) rfl (by decide +kernel) rfl rfl (Nat.le_of_ble_eq_true rfl) dX0_takeBRight_31 rfl (fun f_10 H locs e_11 hM hS => ?_)
    have h_12 : f_10 x = some (.inr (5, [.int ea, .int 0, .int ec, .int (ed + eb)])) := mq_s e_11
    exact mq_vret hx hb hr hlocks hM hS (by rw [e_11, e_8]; (try simp only [mq_uu]); (try rfl)) dX0_takeBRight_34

set_option maxHeartbeats 4000000 in
set_option maxRecDepth 100000 in
theorem c_X0_takeCLeft (l : Launch) (G : mq_G) (A : Nat → Prop) (f : mq_F) (x : Nat) (ea eb ec ed : Int32) (z : Bool) : Met l yX0_takeCLeft wsX0_takeCLeft ({ frames := 0, cells := 0, slots := 0, locals := 0 } : Room) (mq_Pc G A f (f x = some (cEq (ea, eb, ec, ed))) [.ref x, .int (zb z)]) (mq_Qv G A (fun g => g = mq_up f x (cEq (eq_tC z (ea, eb, ec, ed))))) 0 0 A := by
  refine Met.ofW (cc := cX0_takeCLeft) (maxL := 2) (ret := none) (by decide) rfl ?_
  intro p e s m args below meth c s₁ B hml hv
  obtain ⟨rfl, ⟨hK, hZ, hM, hA⟩, hp⟩ := hv
  have hx := B.exec
  have hb := B.bytes
  have hr := B.returns
  have hts := atoms_spec (ws := wsX0_takeCLeft) B.pre
  have hown : s.vm.findClass RX0 = some m.cls := findClass_of_methodNamed B.named
  have hlocks := B.notSynchronized
  have hS : va_S A s.heap s.heap [] := va_S.rf
  have hl := lv_entry ([.ref x, .int (zb z)]) (n := 2) (Nat.le_of_ble_eq_true rfl)
  rw [lg_entry_eq]
  generalize (lg_sl ([.ref x, .int (zb z)]) ++ List.replicate (2 - (lg_sl ([.ref x, .int (zb z)])).length) Slot.unset).toArray = ls at hl ⊢
  have hl : lv_has ls 2 [(0, .ref x), (1, .int (zb z))] := hl
  have w0 := hts (.fieldLink RX0 7 "Tutorlight$Equation" "a" "I") (List.mem_of_getElem? (i := 1) rfl)
  have w1 := hts (.fieldLink RX0 16 "Tutorlight$Equation" "c" "I") (List.mem_of_getElem? (i := 2) rfl)
  have nX0 : ∀ w ∈ wsX00, w ∈ wsX0_takeCLeft := fun _ h => List.mem_cons_of_mem _ (List.mem_append_right _ h)
  refine lv_aload_n hx hb dX0_takeCLeft_0 rfl (lv_at hl 0 rfl) ?_
  refine lv_iload_n hx hb dX0_takeCLeft_1 rfl (lv_at hl 1 rfl) ?_
  refine lv_if_eq (tgt := 17) hx hb dX0_takeCLeft_2 (by decide) (fun c_2 => ?_) (fun c_2 => ?_)
  · rw [zb_0] at c_2
    subst c_2
    refine lv_aload_n hx hb dX0_takeCLeft_17 rfl (lv_at hl 0 rfl) ?_
    refine mq_get (ci := 5) (v := .int ea) (C := RX0) (T := TX0) (N := 4) hx hb hts nX0 hown hK hM hp rfl 0 (by decide) w0 (fun _ h9 => h9) rfl dX0_takeCLeft_18 ?_
    refine lv_aload_n hx hb dX0_takeCLeft_21 rfl (lv_at hl 0 rfl) ?_
    refine mq_get (ci := 5) (v := .int ec) (C := RX0) (T := TX0) (N := 4) hx hb hts nX0 hown hK hM hp rfl 2 (by decide) w1 (fun _ h9 => h9) rfl dX0_takeCLeft_22 ?_
    refine lv_isub hx hb dX0_takeCLeft_25 ?_
    refine mq_put (ci := 5) (v := .int (ea - ec)) (ty := .int) (C := RX0) (T := TX0) (N := 4) (fs' := [.int (ea - ec), .int eb, .int ec, .int ed]) hx hb hts nX0 tyX0 tyX0_ok nmX0 hown hK hM hS hp rfl 0 (by decide) w0 (fun _ h9 => h9) rfl (by decide +kernel) rfl rfl (Nat.le_of_ble_eq_true rfl) dX0_takeCLeft_26 rfl (fun f_1 H locs e_2 hM hS => ?_)
    have h_3 : f_1 x = some (.inr (5, [.int (ea - ec), .int eb, .int ec, .int ed])) := mq_s e_2
    refine lv_aload_n hx hb dX0_takeCLeft_29 rfl (lv_at hl 0 rfl) ?_
    refine lv_iconst (v := 0) hx hb dX0_takeCLeft_30 (by decide) ?_
    refine mq_put (ci := 5) (v := .int 0) (ty := .int) (C := RX0) (T := TX0) (N := 4) (fs' := [.int (ea - ec), .int eb, .int 0, .int ed]) hx hb hts nX0 tyX0 tyX0_ok nmX0 hown hK hM hS h_3 rfl 2 (by decide) w1 (fun _ h9 => h9) rfl (by decide +kernel) rfl rfl (Nat.le_of_ble_eq_true rfl) dX0_takeCLeft_31 rfl (fun f_4 H locs e_5 hM hS => ?_)
    have h_6 : f_4 x = some (.inr (5, [.int (ea - ec), .int eb, .int 0, .int ed])) := mq_s e_5
    exact mq_vret hx hb hr hlocks hM hS (by rw [e_5, e_2]; (try simp only [mq_uu]); (try rfl)) dX0_takeCLeft_34
  · rw [zb_n0] at c_2
    subst c_2
    refine lv_aload_n hx hb dX0_takeCLeft_5 rfl (lv_at hl 0 rfl) ?_
    refine mq_get (ci := 5) (v := .int ea) (C := RX0) (T := TX0) (N := 4) hx hb hts nX0 hown hK hM hp rfl 0 (by decide) w0 (fun _ h9 => h9) rfl dX0_takeCLeft_6 ?_
    refine lv_aload_n hx hb dX0_takeCLeft_9 rfl (lv_at hl 0 rfl) ?_
    refine mq_get (ci := 5) (v := .int ec) (C := RX0) (T := TX0) (N := 4) hx hb hts nX0 hown hK hM hp rfl 2 (by decide) w1 (fun _ h9 => h9) rfl dX0_takeCLeft_10 ?_
    refine lv_iadd hx hb dX0_takeCLeft_13 ?_
    refine lv_goto (tgt := 26) hx hb dX0_takeCLeft_14 (by decide) ?_
    refine mq_put (ci := 5) (v := .int (ea + ec)) (ty := .int) (C := RX0) (T := TX0) (N := 4) (fs' := [.int (ea + ec), .int eb, .int ec, .int ed]) hx hb hts nX0 tyX0 tyX0_ok nmX0 hown hK hM hS hp rfl 0 (by decide) w0 (fun _ h9 => h9) rfl (by decide +kernel) rfl rfl (Nat.le_of_ble_eq_true rfl) dX0_takeCLeft_26 rfl (fun f_7 H locs e_8 hM hS => ?_)
    have h_9 : f_7 x = some (.inr (5, [.int (ea + ec), .int eb, .int ec, .int ed])) := mq_s e_8
    refine lv_aload_n hx hb dX0_takeCLeft_29 rfl (lv_at hl 0 rfl) ?_
    refine lv_iconst (v := 0) hx hb dX0_takeCLeft_30 (by decide) ?_
    refine mq_put (ci := 5) (v := .int 0) (ty := .int) (C := RX0) (T := TX0) (N := 4) (fs' := [.int (ea + ec), .int eb, .int 0, .int ed]) hx hb hts nX0 tyX0 tyX0_ok nmX0 hown hK hM hS h_9 rfl 2 (by decide) w1 (fun _ h9 => h9) rfl (by decide +kernel) rfl rfl (Nat.le_of_ble_eq_true rfl) dX0_takeCLeft_31 rfl (fun f_10 H locs e_11 hM hS => ?_)
    have h_12 : f_10 x = some (.inr (5, [.int (ea + ec), .int eb, .int 0, .int ed])) := mq_s e_11
    exact mq_vret hx hb hr hlocks hM hS (by rw [e_11, e_8]; (try simp only [mq_uu]); (try rfl)) dX0_takeCLeft_34

set_option maxHeartbeats 4000000 in
set_option maxRecDepth 100000 in
theorem c_X0_changeSides (l : Launch) (G : mq_G) (A : Nat → Prop) (f : mq_F) (x : Nat) (ea eb ec ed : Int32) : Met l yX0_changeSides wsX0_changeSides ({ frames := 0, cells := 0, slots := 0, locals := 0 } : Room) (mq_Pc G A f (f x = some (cEq (ea, eb, ec, ed))) [.ref x]) (mq_Qv G A (fun g => g = mq_up f x (cEq (eq_cS (ea, eb, ec, ed))))) 0 0 A := by
  refine Met.ofW (cc := cX0_changeSides) (maxL := 3) (ret := none) (by decide) rfl ?_
  intro p e s m args below meth c s₁ B hml hv
  obtain ⟨rfl, ⟨hK, hZ, hM, hA⟩, hp⟩ := hv
  have hx := B.exec
  have hb := B.bytes
  have hr := B.returns
  have hts := atoms_spec (ws := wsX0_changeSides) B.pre
  have hown : s.vm.findClass RX0 = some m.cls := findClass_of_methodNamed B.named
  have hlocks := B.notSynchronized
  have hS : va_S A s.heap s.heap [] := va_S.rf
  have hl := lv_entry ([.ref x]) (n := 3) (Nat.le_of_ble_eq_true rfl)
  rw [lg_entry_eq]
  generalize (lg_sl ([.ref x]) ++ List.replicate (3 - (lg_sl ([.ref x])).length) Slot.unset).toArray = ls at hl ⊢
  have hl : lv_has ls 3 [(0, .ref x)] := hl
  have w0 := hts (.fieldLink RX0 7 "Tutorlight$Equation" "a" "I") (List.mem_of_getElem? (i := 1) rfl)
  have w1 := hts (.fieldLink RX0 13 "Tutorlight$Equation" "b" "I") (List.mem_of_getElem? (i := 2) rfl)
  have w2 := hts (.fieldLink RX0 16 "Tutorlight$Equation" "c" "I") (List.mem_of_getElem? (i := 3) rfl)
  have w3 := hts (.fieldLink RX0 19 "Tutorlight$Equation" "d" "I") (List.mem_of_getElem? (i := 4) rfl)
  have nX0 : ∀ w ∈ wsX00, w ∈ wsX0_changeSides := fun _ h => List.mem_cons_of_mem _ (List.mem_append_right _ h)
  refine lv_aload_n hx hb dX0_changeSides_0 rfl (lv_at hl 0 rfl) ?_
  refine mq_get (ci := 5) (v := .int ea) (C := RX0) (T := TX0) (N := 4) hx hb hts nX0 hown hK hM hp rfl 0 (by decide) w0 (fun _ h9 => h9) rfl dX0_changeSides_1 ?_
  refine lv_istore_n (lv' := [(1, .int ea), (0, .ref x)]) hx hb dX0_changeSides_4 rfl hl (by decide) rfl (fun ls hl => ?_)
  refine lv_aload_n hx hb dX0_changeSides_5 rfl (lv_at hl 1 rfl) ?_
  refine mq_get (ci := 5) (v := .int eb) (C := RX0) (T := TX0) (N := 4) hx hb hts nX0 hown hK hM hp rfl 1 (by decide) w1 (fun _ h9 => h9) rfl dX0_changeSides_6 ?_
  refine lv_istore_n (lv' := [(2, .int eb), (1, .int ea), (0, .ref x)]) hx hb dX0_changeSides_9 rfl hl (by decide) rfl (fun ls hl => ?_)
  refine lv_aload_n hx hb dX0_changeSides_10 rfl (lv_at hl 2 rfl) ?_
  refine lv_aload_n hx hb dX0_changeSides_11 rfl (lv_at hl 2 rfl) ?_
  refine mq_get (ci := 5) (v := .int ec) (C := RX0) (T := TX0) (N := 4) hx hb hts nX0 hown hK hM hp rfl 2 (by decide) w2 (fun _ h9 => h9) rfl dX0_changeSides_12 ?_
  refine mq_put (ci := 5) (v := .int ec) (ty := .int) (C := RX0) (T := TX0) (N := 4) (fs' := [.int ec, .int eb, .int ec, .int ed]) hx hb hts nX0 tyX0 tyX0_ok nmX0 hown hK hM hS hp rfl 0 (by decide) w0 (fun _ h9 => h9) rfl (by decide +kernel) rfl rfl (Nat.le_of_ble_eq_true rfl) dX0_changeSides_15 rfl (fun f_1 H locs e_2 hM hS => ?_)
  have h_3 : f_1 x = some (.inr (5, [.int ec, .int eb, .int ec, .int ed])) := mq_s e_2
  refine lv_aload_n hx hb dX0_changeSides_18 rfl (lv_at hl 2 rfl) ?_
  refine lv_aload_n hx hb dX0_changeSides_19 rfl (lv_at hl 2 rfl) ?_
  refine mq_get (ci := 5) (v := .int ed) (C := RX0) (T := TX0) (N := 4) hx hb hts nX0 hown hK hM h_3 rfl 3 (by decide) w3 (fun _ h9 => h9) rfl dX0_changeSides_20 ?_
  refine mq_put (ci := 5) (v := .int ed) (ty := .int) (C := RX0) (T := TX0) (N := 4) (fs' := [.int ec, .int ed, .int ec, .int ed]) hx hb hts nX0 tyX0 tyX0_ok nmX0 hown hK hM hS h_3 rfl 1 (by decide) w1 (fun _ h9 => h9) rfl (by decide +kernel) rfl rfl (Nat.le_of_ble_eq_true rfl) dX0_changeSides_23 rfl (fun f_4 H locs e_5 hM hS => ?_)
  have h_6 : f_4 x = some (.inr (5, [.int ec, .int ed, .int ec, .int ed])) := mq_s e_5
  refine lv_aload_n hx hb dX0_changeSides_26 rfl (lv_at hl 2 rfl) ?_
  refine lv_iload_n hx hb dX0_changeSides_27 rfl (lv_at hl 1 rfl) ?_
  refine mq_put (ci := 5) (v := .int ea) (ty := .int) (C := RX0) (T := TX0) (N := 4) (fs' := [.int ec, .int ed, .int ea, .int ed]) hx hb hts nX0 tyX0 tyX0_ok nmX0 hown hK hM hS h_6 rfl 2 (by decide) w2 (fun _ h9 => h9) rfl (by decide +kernel) rfl rfl (Nat.le_of_ble_eq_true rfl) dX0_changeSides_28 rfl (fun f_7 H locs e_8 hM hS => ?_)
  have h_9 : f_7 x = some (.inr (5, [.int ec, .int ed, .int ea, .int ed])) := mq_s e_8
  refine lv_aload_n hx hb dX0_changeSides_31 rfl (lv_at hl 2 rfl) ?_
  refine lv_iload_n hx hb dX0_changeSides_32 rfl (lv_at hl 0 rfl) ?_
  refine mq_put (ci := 5) (v := .int eb) (ty := .int) (C := RX0) (T := TX0) (N := 4) (fs' := [.int ec, .int ed, .int ea, .int eb]) hx hb hts nX0 tyX0 tyX0_ok nmX0 hown hK hM hS h_9 rfl 3 (by decide) w3 (fun _ h9 => h9) rfl (by decide +kernel) rfl rfl (Nat.le_of_ble_eq_true rfl) dX0_changeSides_33 rfl (fun f_10 H locs e_11 hM hS => ?_)
  have h_12 : f_10 x = some (.inr (5, [.int ec, .int ed, .int ea, .int eb])) := mq_s e_11
  exact mq_vret hx hb hr hlocks hM hS (by rw [e_11, e_8, e_5, e_2]; (try simp only [mq_uu]); (try rfl)) dX0_changeSides_36

set_option maxHeartbeats 4000000 in
set_option maxRecDepth 100000 in
theorem c_X0_changeSigns (l : Launch) (G : mq_G) (A : Nat → Prop) (f : mq_F) (x : Nat) (ea eb ec ed : Int32) (z : Bool) : Met l yX0_changeSigns wsX0_changeSigns ({ frames := 0, cells := 0, slots := 0, locals := 0 } : Room) (mq_Pc G A f (f x = some (cEq (ea, eb, ec, ed))) [.ref x, .int (zb z)]) (mq_Qv G A (fun g => g = mq_up f x (cEq (eq_cG z (ea, eb, ec, ed))))) 0 0 A := by
  refine Met.ofW (cc := cX0_changeSigns) (maxL := 2) (ret := none) (by decide) rfl ?_
  intro p e s m args below meth c s₁ B hml hv
  obtain ⟨rfl, ⟨hK, hZ, hM, hA⟩, hp⟩ := hv
  have hx := B.exec
  have hb := B.bytes
  have hr := B.returns
  have hts := atoms_spec (ws := wsX0_changeSigns) B.pre
  have hown : s.vm.findClass RX0 = some m.cls := findClass_of_methodNamed B.named
  have hlocks := B.notSynchronized
  have hS : va_S A s.heap s.heap [] := va_S.rf
  have hl := lv_entry ([.ref x, .int (zb z)]) (n := 2) (Nat.le_of_ble_eq_true rfl)
  rw [lg_entry_eq]
  generalize (lg_sl ([.ref x, .int (zb z)]) ++ List.replicate (2 - (lg_sl ([.ref x, .int (zb z)])).length) Slot.unset).toArray = ls at hl ⊢
  have hl : lv_has ls 2 [(0, .ref x), (1, .int (zb z))] := hl
  have w0 := hts (.fieldLink RX0 7 "Tutorlight$Equation" "a" "I") (List.mem_of_getElem? (i := 1) rfl)
  have w1 := hts (.fieldLink RX0 13 "Tutorlight$Equation" "b" "I") (List.mem_of_getElem? (i := 2) rfl)
  have w2 := hts (.fieldLink RX0 16 "Tutorlight$Equation" "c" "I") (List.mem_of_getElem? (i := 3) rfl)
  have w3 := hts (.fieldLink RX0 19 "Tutorlight$Equation" "d" "I") (List.mem_of_getElem? (i := 4) rfl)
  have nX0 : ∀ w ∈ wsX00, w ∈ wsX0_changeSigns := fun _ h => List.mem_cons_of_mem _ (List.mem_append_right _ h)
  refine lv_aload_n hx hb dX0_changeSigns_0 rfl (lv_at hl 0 rfl) ?_
  refine lv_aload_n hx hb dX0_changeSigns_1 rfl (lv_at hl 0 rfl) ?_
  refine mq_get (ci := 5) (v := .int ea) (C := RX0) (T := TX0) (N := 4) hx hb hts nX0 hown hK hM hp rfl 0 (by decide) w0 (fun _ h9 => h9) rfl dX0_changeSigns_2 ?_
  refine lv_ineg hx hb dX0_changeSigns_5 ?_
  refine mq_put (ci := 5) (v := .int (-ea)) (ty := .int) (C := RX0) (T := TX0) (N := 4) (fs' := [.int (-ea), .int eb, .int ec, .int ed]) hx hb hts nX0 tyX0 tyX0_ok nmX0 hown hK hM hS hp rfl 0 (by decide) w0 (fun _ h9 => h9) rfl (by decide +kernel) rfl rfl (Nat.le_of_ble_eq_true rfl) dX0_changeSigns_6 rfl (fun f_1 H locs e_2 hM hS => ?_)
  have h_3 : f_1 x = some (.inr (5, [.int (-ea), .int eb, .int ec, .int ed])) := mq_s e_2
  refine lv_aload_n hx hb dX0_changeSigns_9 rfl (lv_at hl 0 rfl) ?_
  refine lv_aload_n hx hb dX0_changeSigns_10 rfl (lv_at hl 0 rfl) ?_
  refine mq_get (ci := 5) (v := .int eb) (C := RX0) (T := TX0) (N := 4) hx hb hts nX0 hown hK hM h_3 rfl 1 (by decide) w1 (fun _ h9 => h9) rfl dX0_changeSigns_11 ?_
  refine lv_ineg hx hb dX0_changeSigns_14 ?_
  refine mq_put (ci := 5) (v := .int (-eb)) (ty := .int) (C := RX0) (T := TX0) (N := 4) (fs' := [.int (-ea), .int (-eb), .int ec, .int ed]) hx hb hts nX0 tyX0 tyX0_ok nmX0 hown hK hM hS h_3 rfl 1 (by decide) w1 (fun _ h9 => h9) rfl (by decide +kernel) rfl rfl (Nat.le_of_ble_eq_true rfl) dX0_changeSigns_15 rfl (fun f_4 H locs e_5 hM hS => ?_)
  have h_6 : f_4 x = some (.inr (5, [.int (-ea), .int (-eb), .int ec, .int ed])) := mq_s e_5
  refine lv_iload_n hx hb dX0_changeSigns_18 rfl (lv_at hl 1 rfl) ?_
  refine lv_if_ne (tgt := 40) hx hb dX0_changeSigns_19 (by decide) (fun c_19 => ?_) (fun c_19 => ?_)
  · rw [zb_n0] at c_19
    subst c_19
    exact mq_vret hx hb hr hlocks hM hS (by rw [e_5, e_2]; (try simp only [mq_uu]); (try rfl)) dX0_changeSigns_40
  · rw [zb_0] at c_19
    subst c_19
    refine lv_aload_n hx hb dX0_changeSigns_22 rfl (lv_at hl 0 rfl) ?_
    refine lv_aload_n hx hb dX0_changeSigns_23 rfl (lv_at hl 0 rfl) ?_
    refine mq_get (ci := 5) (v := .int ec) (C := RX0) (T := TX0) (N := 4) hx hb hts nX0 hown hK hM h_6 rfl 2 (by decide) w2 (fun _ h9 => h9) rfl dX0_changeSigns_24 ?_
    refine lv_ineg hx hb dX0_changeSigns_27 ?_
    refine mq_put (ci := 5) (v := .int (-ec)) (ty := .int) (C := RX0) (T := TX0) (N := 4) (fs' := [.int (-ea), .int (-eb), .int (-ec), .int ed]) hx hb hts nX0 tyX0 tyX0_ok nmX0 hown hK hM hS h_6 rfl 2 (by decide) w2 (fun _ h9 => h9) rfl (by decide +kernel) rfl rfl (Nat.le_of_ble_eq_true rfl) dX0_changeSigns_28 rfl (fun f_7 H locs e_8 hM hS => ?_)
    have h_9 : f_7 x = some (.inr (5, [.int (-ea), .int (-eb), .int (-ec), .int ed])) := mq_s e_8
    refine lv_aload_n hx hb dX0_changeSigns_31 rfl (lv_at hl 0 rfl) ?_
    refine lv_aload_n hx hb dX0_changeSigns_32 rfl (lv_at hl 0 rfl) ?_
    refine mq_get (ci := 5) (v := .int ed) (C := RX0) (T := TX0) (N := 4) hx hb hts nX0 hown hK hM h_9 rfl 3 (by decide) w3 (fun _ h9 => h9) rfl dX0_changeSigns_33 ?_
    refine lv_ineg hx hb dX0_changeSigns_36 ?_
    refine mq_put (ci := 5) (v := .int (-ed)) (ty := .int) (C := RX0) (T := TX0) (N := 4) (fs' := [.int (-ea), .int (-eb), .int (-ec), .int (-ed)]) hx hb hts nX0 tyX0 tyX0_ok nmX0 hown hK hM hS h_9 rfl 3 (by decide) w3 (fun _ h9 => h9) rfl (by decide +kernel) rfl rfl (Nat.le_of_ble_eq_true rfl) dX0_changeSigns_37 rfl (fun f_10 H locs e_11 hM hS => ?_)
    have h_12 : f_10 x = some (.inr (5, [.int (-ea), .int (-eb), .int (-ec), .int (-ed)])) := mq_s e_11
    exact mq_vret hx hb hr hlocks hM hS (by rw [e_11, e_8, e_5, e_2]; (try simp only [mq_uu]); (try rfl)) dX0_changeSigns_40

set_option maxHeartbeats 4000000 in
set_option maxRecDepth 100000 in
theorem c_X0_divide (l : Launch) (G : mq_G) (A : Nat → Prop) (f : mq_F) (x : Nat) (ea eb ec ed : Int32) (z : Bool) : Met l yX0_divide wsX0_divide ({ frames := 0, cells := 0, slots := 0, locals := 0 } : Room) (mq_Pc G A f (f x = some (cEq (ea, eb, ec, ed))) [.ref x, .int (zb z)]) (mq_Qv G A (fun g => g = mq_up f x (cEq (eq_dv z (ea, eb, ec, ed))))) 0 0 A := by
  refine Met.ofW (cc := cX0_divide) (maxL := 2) (ret := none) (by decide) rfl ?_
  intro p e s m args below meth c s₁ B hml hv
  obtain ⟨rfl, ⟨hK, hZ, hM, hA⟩, hp⟩ := hv
  have hx := B.exec
  have hb := B.bytes
  have hr := B.returns
  have hts := atoms_spec (ws := wsX0_divide) B.pre
  have hown : s.vm.findClass RX0 = some m.cls := findClass_of_methodNamed B.named
  have hlocks := B.notSynchronized
  have hS : va_S A s.heap s.heap [] := va_S.rf
  have hl := lv_entry ([.ref x, .int (zb z)]) (n := 2) (Nat.le_of_ble_eq_true rfl)
  rw [lg_entry_eq]
  generalize (lg_sl ([.ref x, .int (zb z)]) ++ List.replicate (2 - (lg_sl ([.ref x, .int (zb z)])).length) Slot.unset).toArray = ls at hl ⊢
  have hl : lv_has ls 2 [(0, .ref x), (1, .int (zb z))] := hl
  have w0 := hts (.fieldLink RX0 13 "Tutorlight$Equation" "b" "I") (List.mem_of_getElem? (i := 1) rfl)
  have w1 := hts (.fieldLink RX0 16 "Tutorlight$Equation" "c" "I") (List.mem_of_getElem? (i := 2) rfl)
  have w2 := hts (.fieldLink RX0 7 "Tutorlight$Equation" "a" "I") (List.mem_of_getElem? (i := 3) rfl)
  have w3 := hts (.fieldLink RX0 19 "Tutorlight$Equation" "d" "I") (List.mem_of_getElem? (i := 4) rfl)
  have nX0 : ∀ w ∈ wsX00, w ∈ wsX0_divide := fun _ h => List.mem_cons_of_mem _ (List.mem_append_left _ (List.mem_append_right _ h))
  refine lv_aload_n hx hb dX0_divide_0 rfl (lv_at hl 0 rfl) ?_
  refine mq_get (ci := 5) (v := .int eb) (C := RX0) (T := TX0) (N := 4) hx hb hts nX0 hown hK hM hp rfl 1 (by decide) w0 (fun _ h9 => h9) rfl dX0_divide_1 ?_
  refine lv_if_ne (tgt := 33) hx hb dX0_divide_4 (by decide) (fun c_4 => ?_) (fun c_4 => ?_)
  · exact mq_vret hx hb hr hlocks hM hS (by rw [eq_dv, if_neg (by simp [eq_may, c_4])]; exact (mq_id hp).symm) dX0_divide_33
  · refine lv_aload_n hx hb dX0_divide_7 rfl (lv_at hl 0 rfl) ?_
    refine mq_get (ci := 5) (v := .int ec) (C := RX0) (T := TX0) (N := 4) hx hb hts nX0 hown hK hM hp rfl 2 (by decide) w1 (fun _ h9 => h9) rfl dX0_divide_8 ?_
    refine lv_if_ne (tgt := 33) hx hb dX0_divide_11 (by decide) (fun c_11 => ?_) (fun c_11 => ?_)
    · exact mq_vret hx hb hr hlocks hM hS (by rw [eq_dv, if_neg (by simp [eq_may, c_4, c_11])]; exact (mq_id hp).symm) dX0_divide_33
    · refine lv_aload_n hx hb dX0_divide_14 rfl (lv_at hl 0 rfl) ?_
      refine mq_get (ci := 5) (v := .int ea) (C := RX0) (T := TX0) (N := 4) hx hb hts nX0 hown hK hM hp rfl 0 (by decide) w2 (fun _ h9 => h9) rfl dX0_divide_15 ?_
      refine lv_if_eq (tgt := 33) hx hb dX0_divide_18 (by decide) (fun c_18 => ?_) (fun c_18 => ?_)
      · exact mq_vret hx hb hr hlocks hM hS (by rw [eq_dv, if_neg (by simp [eq_may, c_4, c_11, c_18])]; exact (mq_id hp).symm) dX0_divide_33
      · refine lv_aload_n hx hb dX0_divide_21 rfl (lv_at hl 0 rfl) ?_
        refine mq_get (ci := 5) (v := .int ed) (C := RX0) (T := TX0) (N := 4) hx hb hts nX0 hown hK hM hp rfl 3 (by decide) w3 (fun _ h9 => h9) rfl dX0_divide_22 ?_
        refine lv_aload_n hx hb dX0_divide_25 rfl (lv_at hl 0 rfl) ?_
        refine mq_get (ci := 5) (v := .int ea) (C := RX0) (T := TX0) (N := 4) hx hb hts nX0 hown hK hM hp rfl 0 (by decide) w2 (fun _ h9 => h9) rfl dX0_divide_26 ?_
        refine lv_irem hx hb dX0_divide_29 (c_18) ?_
        refine lv_if_eq (tgt := 34) hx hb dX0_divide_30 (by decide) (fun c_30 => ?_) (fun c_30 => ?_)
        · refine lv_iload_n hx hb dX0_divide_34 rfl (lv_at hl 1 rfl) ?_
          refine lv_if_ne (tgt := 51) hx hb dX0_divide_35 (by decide) (fun c_35 => ?_) (fun c_35 => ?_)
          · rw [zb_n0] at c_35
            subst c_35
            refine lv_aload_n hx hb dX0_divide_51 rfl (lv_at hl 0 rfl) ?_
            refine lv_iconst (v := 1) hx hb dX0_divide_52 (by decide) ?_
            refine mq_put (ci := 5) (v := .int 1) (ty := .int) (C := RX0) (T := TX0) (N := 4) (fs' := [.int 1, .int eb, .int ec, .int ed]) hx hb hts nX0 tyX0 tyX0_ok nmX0 hown hK hM hS hp rfl 0 (by decide) w2 (fun _ h9 => h9) rfl (by decide +kernel) rfl rfl (Nat.le_of_ble_eq_true rfl) dX0_divide_53 rfl (fun f_1 H locs e_2 hM hS => ?_)
            have h_3 : f_1 x = some (.inr (5, [.int 1, .int eb, .int ec, .int ed])) := mq_s e_2
            exact mq_vret hx hb hr hlocks hM hS (by rw [eq_dv, if_pos (by simp [eq_may, c_4, c_11, c_18, c_30])]; exact (by rw [e_2]; (try simp only [mq_uu]); (try rfl))) dX0_divide_56
          · rw [zb_0] at c_35
            subst c_35
            refine lv_aload_n hx hb dX0_divide_38 rfl (lv_at hl 0 rfl) ?_
            refine lv_dup hx hb dX0_divide_39 rfl ?_
            refine mq_get (ci := 5) (v := .int ed) (C := RX0) (T := TX0) (N := 4) hx hb hts nX0 hown hK hM hp rfl 3 (by decide) w3 (fun _ h9 => h9) rfl dX0_divide_40 ?_
            refine lv_aload_n hx hb dX0_divide_43 rfl (lv_at hl 0 rfl) ?_
            refine mq_get (ci := 5) (v := .int ea) (C := RX0) (T := TX0) (N := 4) hx hb hts nX0 hown hK hM hp rfl 0 (by decide) w2 (fun _ h9 => h9) rfl dX0_divide_44 ?_
            refine lv_idiv hx hb dX0_divide_47 (c_18) ?_
            refine mq_put (ci := 5) (v := .int (ed / ea)) (ty := .int) (C := RX0) (T := TX0) (N := 4) (fs' := [.int ea, .int eb, .int ec, .int (ed / ea)]) hx hb hts nX0 tyX0 tyX0_ok nmX0 hown hK hM hS hp rfl 3 (by decide) w3 (fun _ h9 => h9) rfl (by decide +kernel) rfl rfl (Nat.le_of_ble_eq_true rfl) dX0_divide_48 rfl (fun f_4 H locs e_5 hM hS => ?_)
            have h_6 : f_4 x = some (.inr (5, [.int ea, .int eb, .int ec, .int (ed / ea)])) := mq_s e_5
            refine lv_aload_n hx hb dX0_divide_51 rfl (lv_at hl 0 rfl) ?_
            refine lv_iconst (v := 1) hx hb dX0_divide_52 (by decide) ?_
            refine mq_put (ci := 5) (v := .int 1) (ty := .int) (C := RX0) (T := TX0) (N := 4) (fs' := [.int 1, .int eb, .int ec, .int (ed / ea)]) hx hb hts nX0 tyX0 tyX0_ok nmX0 hown hK hM hS h_6 rfl 0 (by decide) w2 (fun _ h9 => h9) rfl (by decide +kernel) rfl rfl (Nat.le_of_ble_eq_true rfl) dX0_divide_53 rfl (fun f_7 H locs e_8 hM hS => ?_)
            have h_9 : f_7 x = some (.inr (5, [.int 1, .int eb, .int ec, .int (ed / ea)])) := mq_s e_8
            exact mq_vret hx hb hr hlocks hM hS (by rw [eq_dv, if_pos (by simp [eq_may, c_4, c_11, c_18, c_30])]; exact (by rw [e_8, e_5]; (try simp only [mq_uu]); (try rfl))) dX0_divide_56
        · exact mq_vret hx hb hr hlocks hM hS (by rw [eq_dv, if_neg (by simp [eq_may, c_4, c_11, c_18, c_30])]; exact (mq_id hp).symm) dX0_divide_33

set_option maxHeartbeats 4000000 in
set_option maxRecDepth 100000 in
theorem c_X0_applyRule (l : Launch) (G : mq_G) (A : Nat → Prop) (f : mq_F) (x : Nat) (ea eb ec ed : Int32) (k : Nat) (z : Bool) : Met l yX0_applyRule wsX0_applyRule ({ frames := 1, cells := 0, slots := 0, locals := 22 } : Room) (mq_Pc G A f (f x = some (cEq (ea, eb, ec, ed)) ∧ k < 5) [.ref x, .int (nI k), .int (zb z)]) (mq_Qv G A (fun g => g = mq_up f x (cEq (eq_rule k z (ea, eb, ec, ed))))) 0 0 A := by
  refine Met.ofW (cc := cX0_applyRule) (maxL := 3) (ret := none) (by decide) rfl ?_
  intro p e s m args below meth c s₁ B hml hv
  obtain ⟨rfl, ⟨hK, hZ, hM, hA⟩, hp⟩ := hv
  have hx := B.exec
  have hb := B.bytes
  have hr := B.returns
  have hts := atoms_spec (ws := wsX0_applyRule) B.pre
  have hown : s.vm.findClass RX0 = some m.cls := findClass_of_methodNamed B.named
  have hlocks := B.notSynchronized
  have hS : va_S A s.heap s.heap [] := va_S.rf
  have hl := lv_entry ([.ref x, .int (nI k), .int (zb z)]) (n := 3) (Nat.le_of_ble_eq_true rfl)
  rw [lg_entry_eq]
  generalize (lg_sl ([.ref x, .int (nI k), .int (zb z)]) ++ List.replicate (3 - (lg_sl ([.ref x, .int (nI k), .int (zb z)])).length) Slot.unset).toArray = ls at hl ⊢
  have hl : lv_has ls 3 [(0, .ref x), (1, .int (nI k)), (2, .int (zb z))] := hl
  obtain ⟨h0, hk⟩ := hp
  refine lv_iload_n hx hb dX0_applyRule_0 rfl (lv_at hl 1 rfl) ?_
  rcases (show k = 0 ∨ k = 1 ∨ k = 2 ∨ k = 3 ∨ k = 4 by omega) with rfl | rfl | rfl | rfl | rfl
  · refine lv_tableIn (off := 35) (tgt := 36) hx hb dX0_applyRule_1 (by decide) (by decide) (by decide) (by decide) ?_
    refine lv_aload_n hx hb dX0_applyRule_36 rfl (lv_at hl 0 rfl) ?_
    refine lv_iload_n hx hb dX0_applyRule_37 rfl (lv_at hl 2 rfl) ?_
    refine mq_callv (va_runV (As := [.int (zb z)]) (rest := []) ⟨hx, hb, hml, hown, hts⟩ (c_X0_takeBRight l G A f x ea eb ec ed z) (cwV 1 hts gX0_applyRule_X0_takeBRight rfl rfl rfl (by decide +kernel) ⟨Nat.le_of_ble_eq_true rfl, Nat.le_of_ble_eq_true rfl⟩) (mq_preV hK hZ hS hA hM (q := (RX0, TX0, 4)) h0 rfl (h0) _) rfl rfl hl.1 rfl (lv_room (Nat.le_of_ble_eq_true rfl)) dX0_applyRule_38 ⟨Nat.le_of_ble_eq_true rfl, Nat.le_of_ble_eq_true rfl⟩) hS (fun g38 H locs p38 hM hS => ?_)
    refine W.widen (k := 0) (n := 0) (Nat.le_of_ble_eq_true rfl) (Nat.le_of_ble_eq_true rfl) ?_
    refine lv_goto (tgt := 75) hx hb dX0_applyRule_41 (by decide) ?_
    exact mq_vret hx hb hr hlocks hM hS (p38) dX0_applyRule_75
  · refine lv_tableIn (off := 43) (tgt := 44) hx hb dX0_applyRule_1 (by decide) (by decide) (by decide) (by decide) ?_
    refine lv_aload_n hx hb dX0_applyRule_44 rfl (lv_at hl 0 rfl) ?_
    refine lv_iload_n hx hb dX0_applyRule_45 rfl (lv_at hl 2 rfl) ?_
    refine mq_callv (va_runV (As := [.int (zb z)]) (rest := []) ⟨hx, hb, hml, hown, hts⟩ (c_X0_takeCLeft l G A f x ea eb ec ed z) (cwV 1 hts gX0_applyRule_X0_takeCLeft rfl rfl rfl (by decide +kernel) ⟨Nat.le_of_ble_eq_true rfl, Nat.le_of_ble_eq_true rfl⟩) (mq_preV hK hZ hS hA hM (q := (RX0, TX0, 4)) h0 rfl (h0) _) rfl rfl hl.1 rfl (lv_room (Nat.le_of_ble_eq_true rfl)) dX0_applyRule_46 ⟨Nat.le_of_ble_eq_true rfl, Nat.le_of_ble_eq_true rfl⟩) hS (fun g46 H locs p46 hM hS => ?_)
    refine W.widen (k := 0) (n := 0) (Nat.le_of_ble_eq_true rfl) (Nat.le_of_ble_eq_true rfl) ?_
    refine lv_goto (tgt := 75) hx hb dX0_applyRule_49 (by decide) ?_
    exact mq_vret hx hb hr hlocks hM hS (p46) dX0_applyRule_75
  · refine lv_tableIn (off := 51) (tgt := 52) hx hb dX0_applyRule_1 (by decide) (by decide) (by decide) (by decide) ?_
    refine lv_aload_n hx hb dX0_applyRule_52 rfl (lv_at hl 0 rfl) ?_
    refine mq_callv (va_runV (As := []) (rest := []) ⟨hx, hb, hml, hown, hts⟩ (c_X0_changeSides l G A f x ea eb ec ed) (cwV 0 hts gX0_applyRule_X0_changeSides rfl rfl rfl (by decide +kernel) ⟨Nat.le_of_ble_eq_true rfl, Nat.le_of_ble_eq_true rfl⟩) (mq_preV hK hZ hS hA hM (q := (RX0, TX0, 4)) h0 rfl (h0) _) rfl rfl hl.1 rfl (lv_room (Nat.le_of_ble_eq_true rfl)) dX0_applyRule_53 ⟨Nat.le_of_ble_eq_true rfl, Nat.le_of_ble_eq_true rfl⟩) hS (fun g53 H locs p53 hM hS => ?_)
    refine W.widen (k := 0) (n := 0) (Nat.le_of_ble_eq_true rfl) (Nat.le_of_ble_eq_true rfl) ?_
    refine lv_goto (tgt := 75) hx hb dX0_applyRule_56 (by decide) ?_
    exact mq_vret hx hb hr hlocks hM hS (p53) dX0_applyRule_75
  · refine lv_tableIn (off := 58) (tgt := 59) hx hb dX0_applyRule_1 (by decide) (by decide) (by decide) (by decide) ?_
    refine lv_aload_n hx hb dX0_applyRule_59 rfl (lv_at hl 0 rfl) ?_
    refine lv_iload_n hx hb dX0_applyRule_60 rfl (lv_at hl 2 rfl) ?_
    refine mq_callv (va_runV (As := [.int (zb z)]) (rest := []) ⟨hx, hb, hml, hown, hts⟩ (c_X0_changeSigns l G A f x ea eb ec ed z) (cwV 1 hts gX0_applyRule_X0_changeSigns rfl rfl rfl (by decide +kernel) ⟨Nat.le_of_ble_eq_true rfl, Nat.le_of_ble_eq_true rfl⟩) (mq_preV hK hZ hS hA hM (q := (RX0, TX0, 4)) h0 rfl (h0) _) rfl rfl hl.1 rfl (lv_room (Nat.le_of_ble_eq_true rfl)) dX0_applyRule_61 ⟨Nat.le_of_ble_eq_true rfl, Nat.le_of_ble_eq_true rfl⟩) hS (fun g61 H locs p61 hM hS => ?_)
    refine W.widen (k := 0) (n := 0) (Nat.le_of_ble_eq_true rfl) (Nat.le_of_ble_eq_true rfl) ?_
    refine lv_goto (tgt := 75) hx hb dX0_applyRule_64 (by decide) ?_
    exact mq_vret hx hb hr hlocks hM hS (p61) dX0_applyRule_75
  · refine lv_tableIn (off := 66) (tgt := 67) hx hb dX0_applyRule_1 (by decide) (by decide) (by decide) (by decide) ?_
    refine lv_aload_n hx hb dX0_applyRule_67 rfl (lv_at hl 0 rfl) ?_
    refine lv_iload_n hx hb dX0_applyRule_68 rfl (lv_at hl 2 rfl) ?_
    refine mq_callv (va_runV (As := [.int (zb z)]) (rest := []) ⟨hx, hb, hml, hown, hts⟩ (c_X0_divide l G A f x ea eb ec ed z) (cwV 1 hts gX0_applyRule_X0_divide rfl rfl rfl (by decide +kernel) ⟨Nat.le_of_ble_eq_true rfl, Nat.le_of_ble_eq_true rfl⟩) (mq_preV hK hZ hS hA hM (q := (RX0, TX0, 4)) h0 rfl (h0) _) rfl rfl hl.1 rfl (lv_room (Nat.le_of_ble_eq_true rfl)) dX0_applyRule_69 ⟨Nat.le_of_ble_eq_true rfl, Nat.le_of_ble_eq_true rfl⟩) hS (fun g69 H locs p69 hM hS => ?_)
    refine W.widen (k := 0) (n := 0) (Nat.le_of_ble_eq_true rfl) (Nat.le_of_ble_eq_true rfl) ?_
    refine lv_goto (tgt := 75) hx hb dX0_applyRule_72 (by decide) ?_
    exact mq_vret hx hb hr hlocks hM hS (p69) dX0_applyRule_75

set_option maxHeartbeats 4000000 in
set_option maxRecDepth 100000 in
theorem c_X0_isChangedBy (l : Launch) (G : mq_G) (A : Nat → Prop) (f : mq_F) (x : Nat) (ea eb ec ed : Int32) (k : Nat) : Met l yX0_isChangedBy wsX0_isChangedBy ({ frames := 2, cells := 1, slots := 4, locals := 48 } : Room) (mq_Pc G A f (f x = some (cEq (ea, eb, ec, ed)) ∧ k < 5) [.ref x, .int (nI k)]) (mq_Qi G A (fun r g => (∀ y e, f y = some e → g y = some e) ∧ r = zb (!decide (eq_rule k false (ea, eb, ec, ed) = (ea, eb, ec, ed))))) 1 4 A := by
  refine Met.ofW (cc := cX0_isChangedBy) (maxL := 3) (ret := (some .boolean)) (by decide) rfl ?_
  intro p e s m args below meth c s₁ B hml hv
  obtain ⟨rfl, ⟨hK, hZ, hM, hA⟩, hp⟩ := hv
  have hx := B.exec
  have hb := B.bytes
  have hr := B.returns
  have hts := atoms_spec (ws := wsX0_isChangedBy) B.pre
  have hown : s.vm.findClass RX0 = some m.cls := findClass_of_methodNamed B.named
  have hlocks := B.notSynchronized
  have hS : va_S A s.heap s.heap [] := va_S.rf
  have hl := lv_entry ([.ref x, .int (nI k)]) (n := 3) (Nat.le_of_ble_eq_true rfl)
  rw [lg_entry_eq]
  generalize (lg_sl ([.ref x, .int (nI k)]) ++ List.replicate (3 - (lg_sl ([.ref x, .int (nI k)])).length) Slot.unset).toArray = ls at hl ⊢
  have hl : lv_has ls 3 [(0, .ref x), (1, .int (nI k))] := hl
  have w0 := hts (.classLink RX0 8 RX0) (List.mem_of_getElem? (i := 1) rfl)
  have w1 := hts (.instantiable RX0 4) (List.mem_of_getElem? (i := 2) rfl)
  have w2 := hts (.initialized RX0) (List.mem_of_getElem? (i := 3) rfl)
  have w3 := hts (.fieldLink RX0 7 "Tutorlight$Equation" "a" "I") (List.mem_of_getElem? (i := 4) rfl)
  have w4 := hts (.fieldLink RX0 13 "Tutorlight$Equation" "b" "I") (List.mem_of_getElem? (i := 5) rfl)
  have w5 := hts (.fieldLink RX0 16 "Tutorlight$Equation" "c" "I") (List.mem_of_getElem? (i := 6) rfl)
  have w6 := hts (.fieldLink RX0 19 "Tutorlight$Equation" "d" "I") (List.mem_of_getElem? (i := 7) rfl)
  have w7 := hts (.methodLink RX0 42 yX0_init) (List.mem_of_getElem? (i := 8) rfl)
  have w8 := hts (.instanceMethod yX0_init) (List.mem_of_getElem? (i := 9) rfl)
  have nX0 : ∀ w ∈ wsX00, w ∈ wsX0_isChangedBy := fun _ h => List.mem_cons_of_mem _ (List.mem_append_left _ (List.mem_append_right _ h))
  obtain ⟨h0, hk⟩ := hp
  refine mq_new (ci := 5) (fs := [.int 0, .int 0, .int 0, .int 0]) (C := RX0) (T := TX0) (N := 4) hx hb hts nX0 tyX0 tyX0_ok hown w0 w1 w2 hK hM hS hA rfl (fun j hj => by rcases (show j = 0 ∨ j = 1 ∨ j = 2 ∨ j = 3 by omega) with rfl | rfl | rfl | rfl <;> rfl) (Nat.le_of_ble_eq_true rfl) (Nat.le_of_ble_eq_true rfl) dX0_isChangedBy_0 (fun q0 f_1 H hq0 e_2 hM hS => ?_)
  refine W.widen (k := 1) (n := 4) (Nat.le_of_ble_eq_true rfl) (Nat.le_of_ble_eq_true rfl) ?_
  have h_3 : f_1 x = some (.inr (5, [.int ea, .int eb, .int ec, .int ed])) := mq_n e_2 h0 (mq_neN h0 hq0)
  have h_4 : f_1 q0 = some (.inr (5, [.int 0, .int 0, .int 0, .int 0])) := mq_s e_2
  refine lv_dup hx hb dX0_isChangedBy_3 rfl ?_
  refine lv_aload_n hx hb dX0_isChangedBy_4 rfl (lv_at hl 0 rfl) ?_
  refine mq_get (ci := 5) (v := .int ea) (C := RX0) (T := TX0) (N := 4) hx hb hts nX0 hown hK hM h_3 rfl 0 (by decide) w3 (fun _ h9 => h9) rfl dX0_isChangedBy_5 ?_
  refine lv_aload_n hx hb dX0_isChangedBy_8 rfl (lv_at hl 0 rfl) ?_
  refine mq_get (ci := 5) (v := .int eb) (C := RX0) (T := TX0) (N := 4) hx hb hts nX0 hown hK hM h_3 rfl 1 (by decide) w4 (fun _ h9 => h9) rfl dX0_isChangedBy_9 ?_
  refine lv_aload_n hx hb dX0_isChangedBy_12 rfl (lv_at hl 0 rfl) ?_
  refine mq_get (ci := 5) (v := .int ec) (C := RX0) (T := TX0) (N := 4) hx hb hts nX0 hown hK hM h_3 rfl 2 (by decide) w5 (fun _ h9 => h9) rfl dX0_isChangedBy_13 ?_
  refine lv_aload_n hx hb dX0_isChangedBy_16 rfl (lv_at hl 0 rfl) ?_
  refine mq_get (ci := 5) (v := .int ed) (C := RX0) (T := TX0) (N := 4) hx hb hts nX0 hown hK hM h_3 rfl 3 (by decide) w6 (fun _ h9 => h9) rfl dX0_isChangedBy_17 ?_
  refine mq_callv (va_runI (As := [.int ea, .int eb, .int ec, .int ed]) (rest := [.ref q0]) ⟨hx, hb, hml, hown, hts⟩ (c_X0_init l G A f_1 q0 ea eb ec ed) (cwI 4 hts gX0_isChangedBy_X0_init rfl rfl rfl w2 w7 w8 rfl (by decide +kernel) ⟨Nat.le_of_ble_eq_true rfl, Nat.le_of_ble_eq_true rfl⟩) (mq_preS hK hZ hS hA hM (⟨(0, 0, 0, 0), h_4⟩) _) rfl rfl hl.1 rfl (lv_room (Nat.le_of_ble_eq_true rfl)) dX0_isChangedBy_20 ⟨Nat.le_of_ble_eq_true rfl, Nat.le_of_ble_eq_true rfl⟩) hS (fun g20 H locs p20 hM hS => ?_)
  refine W.widen (k := 1) (n := 4) (Nat.le_of_ble_eq_true rfl) (Nat.le_of_ble_eq_true rfl) ?_
  have h_5 : g20 x = some (.inr (5, [.int ea, .int eb, .int ec, .int ed])) := mq_n p20 h_3 (mq_neN h0 hq0)
  have h_6 : g20 q0 = some (.inr (5, [.int ea, .int eb, .int ec, .int ed])) := mq_s p20
  refine lv_astore_n (lv' := [(2, .ref q0), (0, .ref x), (1, .int (nI k))]) hx hb dX0_isChangedBy_23 rfl hl (by decide) rfl (fun ls hl => ?_)
  refine lv_aload_n hx hb dX0_isChangedBy_24 rfl (lv_at hl 0 rfl) ?_
  refine lv_iload_n hx hb dX0_isChangedBy_25 rfl (lv_at hl 2 rfl) ?_
  refine lv_iconst (v := 0) hx hb dX0_isChangedBy_26 (by decide) ?_
  obtain ⟨⟨ea9, eb9, ec9, ed9⟩, hr9⟩ : ∃ q, q = eq_rule k false (ea, eb, ec, ed) := ⟨_, rfl⟩
  refine mq_callv (va_runV (As := [.int (nI k), .int 0]) (rest := []) ⟨hx, hb, hml, hown, hts⟩ (c_X0_applyRule l G A g20 q0 ea eb ec ed k false) (cwV 2 hts gX0_isChangedBy_X0_applyRule rfl rfl rfl (by decide +kernel) ⟨Nat.le_of_ble_eq_true rfl, Nat.le_of_ble_eq_true rfl⟩) (mq_preV hK hZ hS hA hM (q := (RX0, TX0, 4)) h_6 rfl (⟨h_6, hk⟩) _) rfl rfl hl.1 rfl (lv_room (Nat.le_of_ble_eq_true rfl)) dX0_isChangedBy_27 ⟨Nat.le_of_ble_eq_true rfl, Nat.le_of_ble_eq_true rfl⟩) hS (fun g27 H locs p27 hM hS => ?_)
  refine W.widen (k := 1) (n := 4) (Nat.le_of_ble_eq_true rfl) (Nat.le_of_ble_eq_true rfl) ?_
  rw [← hr9] at p27
  have h_7 : g27 x = some (.inr (5, [.int ea, .int eb, .int ec, .int ed])) := mq_n p27 h_5 (mq_neN h0 hq0)
  have h_8 : g27 q0 = some (.inr (5, [.int ea9, .int eb9, .int ec9, .int ed9])) := mq_s p27
  refine lv_aload_n hx hb dX0_isChangedBy_30 rfl (lv_at hl 0 rfl) ?_
  refine lv_aload_n hx hb dX0_isChangedBy_31 rfl (lv_at hl 1 rfl) ?_
  refine mq_calli (va_runV (As := [.ref x]) (rest := []) ⟨hx, hb, hml, hown, hts⟩ (c_X0_isSameAs l G A g27 q0 x ea9 eb9 ec9 ed9 ea eb ec ed) (cwV 1 hts gX0_isChangedBy_X0_isSameAs rfl rfl rfl (by decide +kernel) ⟨Nat.le_of_ble_eq_true rfl, Nat.le_of_ble_eq_true rfl⟩) (mq_preV hK hZ hS hA hM (q := (RX0, TX0, 4)) h_8 rfl (⟨h_8, h_7⟩) _) rfl rfl hl.1 rfl (lv_room (Nat.le_of_ble_eq_true rfl)) dX0_isChangedBy_32 ⟨Nat.le_of_ble_eq_true rfl, Nat.le_of_ble_eq_true rfl⟩) hS (fun r32 g32 H locs p32 hM hS => ?_)
  refine W.widen (k := 1) (n := 4) (Nat.le_of_ble_eq_true rfl) (Nat.le_of_ble_eq_true rfl) ?_
  obtain ⟨rfl, e32⟩ := p32
  rw [e32]
  refine lv_if_ne (tgt := 42) hx hb dX0_isChangedBy_35 (by decide) (fun c_35 => ?_) (fun c_35 => ?_)
  · rw [zb_n0] at c_35
    refine lv_iconst (v := 0) hx hb dX0_isChangedBy_42 (by decide) ?_
    exact mq_zret (v := 0) hx hb hr (rfl) hlocks hM hS (⟨fun y e hy => by rw [p27, mq_up_n (mq_neN hy hq0), p20, mq_up_n (mq_neN hy hq0), e_2, mq_up_n (mq_neN hy hq0)]; exact hy, by rw [← hr9, c_35]; rfl⟩) dX0_isChangedBy_43
  · rw [zb_0] at c_35
    refine lv_iconst (v := 1) hx hb dX0_isChangedBy_38 (by decide) ?_
    refine lv_goto (tgt := 43) hx hb dX0_isChangedBy_39 (by decide) ?_
    exact mq_zret (v := 1) hx hb hr (rfl) hlocks hM hS (⟨fun y e hy => by rw [p27, mq_up_n (mq_neN hy hq0), p20, mq_up_n (mq_neN hy hq0), e_2, mq_up_n (mq_neN hy hq0)]; exact hy, by rw [← hr9, c_35]; rfl⟩) dX0_isChangedBy_43

set_option maxHeartbeats 4000000 in
set_option maxRecDepth 100000 in
theorem c_X0_ruleToTry (l : Launch) (G : mq_G) (A : Nat → Prop) (f : mq_F) (x : Nat) (ea eb ec ed : Int32) : Met l yX0_ruleToTry wsX0_ruleToTry ({ frames := 3, cells := 3, slots := 12, locals := 70 } : Room) (mq_Pc G A f (f x = some (cEq (ea, eb, ec, ed))) [.ref x]) (mq_Qi G A (fun r g => (∀ y e, f y = some e → g y = some e) ∧ r = (if eq_rule 1 false (ea, eb, ec, ed) ≠ (ea, eb, ec, ed) then 1 else if eq_rule 0 false (ea, eb, ec, ed) ≠ (ea, eb, ec, ed) then 0 else if eq_rule 4 false (ea, eb, ec, ed) ≠ (ea, eb, ec, ed) then 4 else 3))) 3 12 A := by
  refine Met.ofW (cc := cX0_ruleToTry) (maxL := 1) (ret := (some .int)) (by decide) rfl ?_
  intro p e s m args below meth c s₁ B hml hv
  obtain ⟨rfl, ⟨hK, hZ, hM, hA⟩, hp⟩ := hv
  have hx := B.exec
  have hb := B.bytes
  have hr := B.returns
  have hts := atoms_spec (ws := wsX0_ruleToTry) B.pre
  have hown : s.vm.findClass RX0 = some m.cls := findClass_of_methodNamed B.named
  have hlocks := B.notSynchronized
  have hS : va_S A s.heap s.heap [] := va_S.rf
  have hl := lv_entry ([.ref x]) (n := 1) (Nat.le_of_ble_eq_true rfl)
  rw [lg_entry_eq]
  generalize (lg_sl ([.ref x]) ++ List.replicate (1 - (lg_sl ([.ref x])).length) Slot.unset).toArray = ls at hl ⊢
  have hl : lv_has ls 1 [(0, .ref x)] := hl
  refine lv_aload_n hx hb dX0_ruleToTry_0 rfl (lv_at hl 0 rfl) ?_
  refine lv_iconst (v := 1) hx hb dX0_ruleToTry_1 (by decide) ?_
  refine mq_calli (va_runV (As := [.int 1]) (rest := []) ⟨hx, hb, hml, hown, hts⟩ (c_X0_isChangedBy l G A f x ea eb ec ed 1) (cwV 1 hts gX0_ruleToTry_X0_isChangedBy rfl rfl rfl (by decide +kernel) ⟨Nat.le_of_ble_eq_true rfl, Nat.le_of_ble_eq_true rfl⟩) (mq_preV hK hZ hS hA hM (q := (RX0, TX0, 4)) hp rfl (⟨hp, by decide⟩) _) rfl rfl hl.1 rfl (lv_room (Nat.le_of_ble_eq_true rfl)) dX0_ruleToTry_2 ⟨Nat.le_of_ble_eq_true rfl, Nat.le_of_ble_eq_true rfl⟩) hS (fun r2 g2 H locs p2 hM hS => ?_)
  refine W.widen (k := 1) (n := 4) (Nat.le_of_ble_eq_true rfl) (Nat.le_of_ble_eq_true rfl) ?_
  obtain ⟨k2, e2⟩ := p2
  have j2 := k2 _ _ hp
  refine lv_if_eq (tgt := 10) hx hb dX0_ruleToTry_5 (by decide) (fun c_5 => ?_) (fun c_5 => ?_)
  · rw [e2, zb_0] at c_5
    refine lv_aload_n hx hb dX0_ruleToTry_10 rfl (lv_at hl 0 rfl) ?_
    refine lv_iconst (v := 0) hx hb dX0_ruleToTry_11 (by decide) ?_
    refine mq_calli (va_runV (As := [.int 0]) (rest := []) ⟨hx, hb, hml, hown, hts⟩ (c_X0_isChangedBy l G A g2 x ea eb ec ed 0) (cwV 1 hts gX0_ruleToTry_X0_isChangedBy rfl rfl rfl (by decide +kernel) ⟨Nat.le_of_ble_eq_true rfl, Nat.le_of_ble_eq_true rfl⟩) (mq_preV hK hZ hS hA hM (q := (RX0, TX0, 4)) j2 rfl (⟨j2, by decide⟩) _) rfl rfl hl.1 rfl (lv_room (Nat.le_of_ble_eq_true rfl)) dX0_ruleToTry_12 ⟨Nat.le_of_ble_eq_true rfl, Nat.le_of_ble_eq_true rfl⟩) hS (fun r12 g12 H locs p12 hM hS => ?_)
    refine W.widen (k := 2) (n := 8) (Nat.le_of_ble_eq_true rfl) (Nat.le_of_ble_eq_true rfl) ?_
    obtain ⟨k12, e12⟩ := p12
    have j12 := k12 _ _ j2
    refine lv_if_eq (tgt := 20) hx hb dX0_ruleToTry_15 (by decide) (fun c_15 => ?_) (fun c_15 => ?_)
    · rw [e12, zb_0] at c_15
      refine lv_aload_n hx hb dX0_ruleToTry_20 rfl (lv_at hl 0 rfl) ?_
      refine lv_iconst (v := 4) hx hb dX0_ruleToTry_21 (by decide) ?_
      refine mq_calli (va_runV (As := [.int 4]) (rest := []) ⟨hx, hb, hml, hown, hts⟩ (c_X0_isChangedBy l G A g12 x ea eb ec ed 4) (cwV 1 hts gX0_ruleToTry_X0_isChangedBy rfl rfl rfl (by decide +kernel) ⟨Nat.le_of_ble_eq_true rfl, Nat.le_of_ble_eq_true rfl⟩) (mq_preV hK hZ hS hA hM (q := (RX0, TX0, 4)) j12 rfl (⟨j12, by decide⟩) _) rfl rfl hl.1 rfl (lv_room (Nat.le_of_ble_eq_true rfl)) dX0_ruleToTry_22 ⟨Nat.le_of_ble_eq_true rfl, Nat.le_of_ble_eq_true rfl⟩) hS (fun r22 g22 H locs p22 hM hS => ?_)
      refine W.widen (k := 3) (n := 12) (Nat.le_of_ble_eq_true rfl) (Nat.le_of_ble_eq_true rfl) ?_
      obtain ⟨k22, e22⟩ := p22
      have j22 := k22 _ _ j12
      refine lv_if_eq (tgt := 32) hx hb dX0_ruleToTry_25 (by decide) (fun c_25 => ?_) (fun c_25 => ?_)
      · rw [e22, zb_0] at c_25
        refine lv_iconst (v := 3) hx hb dX0_ruleToTry_32 (by decide) ?_
        exact mq_iret (v := 3) hx hb hr hlocks hM hS (⟨fun y e hy => k22 _ _ (k12 _ _ (k2 _ _ hy)), by simp at c_5 c_15 c_25; simp [c_5, c_15, c_25]⟩) dX0_ruleToTry_33
      · rw [e22, zb_n0] at c_25
        refine lv_iconst (v := 4) hx hb dX0_ruleToTry_28 (by decide) ?_
        refine lv_goto (tgt := 33) hx hb dX0_ruleToTry_29 (by decide) ?_
        exact mq_iret (v := 4) hx hb hr hlocks hM hS (⟨fun y e hy => k22 _ _ (k12 _ _ (k2 _ _ hy)), by simp at c_5 c_15 c_25; simp [c_5, c_15, c_25]⟩) dX0_ruleToTry_33
    · rw [e12, zb_n0] at c_15
      refine lv_iconst (v := 0) hx hb dX0_ruleToTry_18 (by decide) ?_
      refine W.widen (k := 3) (n := 12) (Nat.le_of_ble_eq_true rfl) (Nat.le_of_ble_eq_true rfl) ?_
      exact mq_iret (v := 0) hx hb hr hlocks hM hS (⟨fun y e hy => k12 _ _ (k2 _ _ hy), by simp at c_5 c_15; simp [c_5, c_15]⟩) dX0_ruleToTry_19
  · rw [e2, zb_n0] at c_5
    refine lv_iconst (v := 1) hx hb dX0_ruleToTry_8 (by decide) ?_
    refine W.widen (k := 3) (n := 12) (Nat.le_of_ble_eq_true rfl) (Nat.le_of_ble_eq_true rfl) ?_
    exact mq_iret (v := 1) hx hb hr hlocks hM hS (⟨k2, by simp at c_5; simp [c_5]⟩) dX0_ruleToTry_9
