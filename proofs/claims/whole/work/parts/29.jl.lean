/-! THE JDK'S LISTS: x a list's cell, d its row's address where it has one (cap not 0), n its size, gg its parts -/
def nc (n : Nat) : Nat := if n = 0 then 10 else n + max 1 (n / 2)
theorem sh1 {n : Nat} (h : n < 2 ^ 31) : nI n >>> (1 &&& 31) = nI (n / 2) := pk_shrN h 1 1 (by decide)
/-- a list without a row holds the empty static one -/
theorem lsD_0 {G : mq_G} {q : Nat} : lsD G 0 q = sE G := if_pos rfl
theorem lsD_1 {G : mq_G} {k q : Nat} (h : k ≠ 0) : lsD G k q = q := if_neg h
section MQ4
variable {p : Program} {l : Launch} {e : Env} {R : Room} {s : State} {m : MethodId} {args : Array Value} {below : List Frame} {meth : Method} {c : Code} {H : Heap} {locs : List Loc} {cells slots : Nat} {Q : State → Prop}
variable {cc : ByteArray} {pc : Nat} {ls : Array Slot} {rest : List Value} {G : mq_G} {A : Nat → Prop} {f : mq_F}
theorem mq_lenL (hx : p.tables.exec = Jvm.exec) (hb : c.code = cc) (hK : va_K G.1 vwCl (mq_T G.2) s) (hZ : mq_Z G A s s.heap) (hM : mq_W G.1 A f H) (hS : va_S A s.heap H locs) {k d : Nat} {g : Nat → Option Nat} (hd : k ≠ 0 → f d = some (cRf (G.2 8) k g)) (hdg : decode cc pc = .ok (.arraylength, 1))
    (kk : W p l e R s m args below meth c H locs cells slots Q (F0 m (pc + 1) ls (.int (nI k) :: rest))) : W p l e R s m args below meth c H locs cells slots Q (F0 m pc ls (.ref (lsD G k d) :: rest)) := by
  by_cases h : k = 0
  · subst h
    rw [lsD_0]
    exact va_tlen hx hb hZ.2.2.2.1.2.1 hS rfl hdg kk
  · rw [lsD_1 h]
    exact mq_alen (t0 := 8) (v := nI k) hx hb hK hM rfl (hd h) rfl hdg kk
end MQ4
theorem cpy_rf {k n : Nat} {gg : Nat → Nat} (h : n ≤ k) (g : Nat → Option Nat) (hg : ∀ i, g i = none) : va_cpy (rf_of n gg) g 0 0 k = rf_of n gg := by
  funext i
  show (if 0 ≤ i ∧ i < 0 + k then rf_of n gg (0 + (i - 0)) else g i) = _
  by_cases hi : i < k
  · rw [if_pos ⟨Nat.zero_le _, by omega⟩, show 0 + (i - 0) = i by omega]
  · rw [if_neg (by omega), hg]
    exact (if_neg (by omega)).symm
theorem mq_E.upL {G : mq_G} {f : mq_F} {y x : Nat} {mo : Int32} {el n : Nat} {e' : va_E} (h : mq_E G f y) (hx : f x = some (cLs mo el n)) : mq_E G (mq_up f x e') y := h.keep fun e he _ h2 => mq_n rfl he fun w => by
  subst w
  rw [hx] at he
  cases he
  exact h2 _ rfl rfl
theorem mq_E.upN {G : mq_G} {f : mq_F} {y q : Nat} {e' : va_E} (h : mq_E G f y) (hq : f q = none) : mq_E G (mq_up f q e') y := h.keep fun e he _ _ => mq_n rfl he (mq_neN he hq)
theorem mq_E.upA {G : mq_G} {f : mq_F} {y d k : Nat} {c : ClassId} {r : Nat → Option Nat} {e' : va_E} (h : mq_E G f y) (hd : f d = some (cRf c k r)) : mq_E G (mq_up f d e') y := h.keep fun e he h1 _ => mq_n rfl he fun w => by
  subst w
  rw [hd] at he
  cases he
  exact h1 _ _ _ rfl
/-- what a list's add does: x the list, y the new part -/
def addP (G : mq_G) (f g : mq_F) (x y : Nat) (mo : Int32) (k d n : Nat) (gg : Nat → Nat) : Prop := (n < k ∧ g = mq_up (mq_up f d (cRf (G.2 8) k (rf_of (n + 1) (fun i => if i = n then y else gg i)))) x (cLs mo d (n + 1))) ∨ (n = k ∧ ∃ q, f q = none ∧ g = mq_up (mq_up f q (cRf (G.2 8) (nc k) (rf_of (n + 1) (fun i => if i = n then y else gg i)))) x (cLs mo q (n + 1)))
theorem addP.back {G : mq_G} {f g h : mq_F} {x y : Nat} {mo : Int32} {k d n : Nat} {gg : Nat → Nat} {e : va_E} (hg : g = mq_up f x e) (hd : n < k → d ≠ x) (hp : addP G g h x y mo k d n gg) : addP G f h x y mo k d n gg := by
  subst hg
  rcases hp with ⟨h1, h2⟩ | ⟨h1, q, h2, h3⟩
  · refine Or.inl ⟨h1, ?_⟩
    rw [h2, mq_uc (Ne.symm (hd h1)), mq_uu]
  · have hqx : q ≠ x := fun w => by subst w; rw [mq_up_s] at h2; cases h2
    rw [mq_up_n hqx] at h2
    refine Or.inr ⟨h1, q, h2, ?_⟩
    rw [h3, mq_uc (Ne.symm hqx), mq_uu]

set_option maxHeartbeats 4000000 in
set_option maxRecDepth 100000 in
theorem c_Jxa1e45_init_da8c8 (l : Launch) (G : mq_G) (A : Nat → Prop) (f : mq_F) (x : Nat) : Met l yJxa1e45_init_da8c8 wsJxa1e45_init_da8c8 ({ frames := 1, cells := 0, slots := 0, locals := 24 } : Room) (mq_Pc G A f (True) [.ref x]) (mq_Qv G A (fun g => f = g)) 0 0 A := by
  refine Met.ofW (cc := cJxa1e45_init_da8c8) (maxL := 1) (ret := none) (by decide) rfl ?_
  intro p e s m args below meth c s₁ B hml hv
  obtain ⟨rfl, ⟨hK, hZ, hM, hA⟩, hp⟩ := hv
  have hx := B.exec
  have hb := B.bytes
  have hr := B.returns
  have hts := atoms_spec (ws := wsJxa1e45_init_da8c8) B.pre
  have hown : s.vm.findClass RJxa1e45 = some m.cls := findClass_of_methodNamed B.named
  have hlocks := B.notSynchronized
  have hin : meth.name = "<init>" := (name_of_methodNamed B.named B.method).1
  have hS : va_S A s.heap s.heap [] := va_S.rf
  have hl := lv_entry ([.ref x]) (n := 1) (Nat.le_of_ble_eq_true rfl)
  rw [lg_entry_eq]
  generalize (lg_sl ([.ref x]) ++ List.replicate (1 - (lg_sl ([.ref x])).length) Slot.unset).toArray = ls at hl ⊢
  have hl : lv_has ls 1 [(0, .ref x)] := hl
  have w0 := hts (.methodLink RJxa1e45 1 objectInit) (List.mem_of_getElem? (i := 1) rfl)
  have w1 := hts (.instanceMethod objectInit) (List.mem_of_getElem? (i := 2) rfl)
  have w2 := hts (.code objectInit ⟨#[0xb1]⟩ 1 none) (List.mem_of_getElem? (i := 3) rfl)
  refine lv_aload_n hx hb dJxa1e45_init_da8c8_0 rfl (lv_at hl 0 rfl) ?_
  refine W.objInit hx hb hown w0 w1 w2 rfl (by rw [hml]; exact hl.1) rfl dJxa1e45_init_da8c8_1 (Nat.le_of_ble_eq_true rfl) (Nat.le_of_ble_eq_true rfl) ?_
  refine W.eq (g2 := F0 m 4 ls []) rfl ?_
  exact mq_vret hx hb hr hlocks hM hS (rfl) dJxa1e45_init_da8c8_4

set_option maxHeartbeats 4000000 in
set_option maxRecDepth 100000 in
theorem c_Jxc12de_init_da8c8 (l : Launch) (G : mq_G) (A : Nat → Prop) (f : mq_F) (x : Nat) : Met l yJxc12de_init_da8c8 wsJxc12de_init_da8c8 ({ frames := 2, cells := 0, slots := 0, locals := 44 } : Room) (mq_Pc G A f (f x = some (.inr (4, [.int 0, .null, .int 0]))) [.ref x]) (mq_Qv G A (fun g => f = g)) 0 0 A := by
  refine Met.ofW (cc := cJxc12de_init_da8c8) (maxL := 1) (ret := none) (by decide) rfl ?_
  intro p e s m args below meth c s₁ B hml hv
  obtain ⟨rfl, ⟨hK, hZ, hM, hA⟩, hp⟩ := hv
  have hx := B.exec
  have hb := B.bytes
  have hr := B.returns
  have hts := atoms_spec (ws := wsJxc12de_init_da8c8) B.pre
  have hown : s.vm.findClass RJxc12de = some m.cls := findClass_of_methodNamed B.named
  have hlocks := B.notSynchronized
  have hin : meth.name = "<init>" := (name_of_methodNamed B.named B.method).1
  have hS : va_S A s.heap s.heap [] := va_S.rf
  have hl := lv_entry ([.ref x]) (n := 1) (Nat.le_of_ble_eq_true rfl)
  rw [lg_entry_eq]
  generalize (lg_sl ([.ref x]) ++ List.replicate (1 - (lg_sl ([.ref x])).length) Slot.unset).toArray = ls at hl ⊢
  have hl : lv_has ls 1 [(0, .ref x)] := hl
  have w0 := hts (.initialized RJxa1e45) (List.mem_of_getElem? (i := 4) rfl)
  have w1 := hts (.methodLink RJxc12de 1 yJxa1e45_init_da8c8) (List.mem_of_getElem? (i := 2) rfl)
  have w2 := hts (.instanceMethod yJxa1e45_init_da8c8) (List.mem_of_getElem? (i := 3) rfl)
  have w3 := hts (.fieldLink RJxc12de 7 "java/util/AbstractList" "modCount" "I") (List.mem_of_getElem? (i := 1) rfl)
  have nJx4a65c : ∀ w ∈ wsJx4a65c0, w ∈ wsJxc12de_init_da8c8 := fun _ h => List.mem_cons_of_mem _ (List.mem_append_right _ h)
  refine lv_aload_n hx hb dJxc12de_init_da8c8_0 rfl (lv_at hl 0 rfl) ?_
  refine mq_callv (va_runI (As := []) (rest := []) ⟨hx, hb, hml, hown, hts⟩ (c_Jxa1e45_init_da8c8 l G A f x) (cwI 0 hts gJxc12de_init_da8c8_Jxa1e45_init_da8c8 rfl rfl rfl w0 w1 w2 rfl (by decide +kernel) ⟨Nat.le_of_ble_eq_true rfl, Nat.le_of_ble_eq_true rfl⟩) (mq_preS hK hZ hS hA hM (trivial) _) rfl rfl hl.1 rfl (lv_room (Nat.le_of_ble_eq_true rfl)) dJxc12de_init_da8c8_1 ⟨Nat.le_of_ble_eq_true rfl, Nat.le_of_ble_eq_true rfl⟩) hS (fun g1 H locs p1 hM hS => ?_)
  refine W.widen (k := 0) (n := 0) (Nat.le_of_ble_eq_true rfl) (Nat.le_of_ble_eq_true rfl) ?_
  obtain rfl := p1
  refine lv_aload_n hx hb dJxc12de_init_da8c8_4 rfl (lv_at hl 0 rfl) ?_
  refine lv_iconst (v := 0) hx hb dJxc12de_init_da8c8_5 (by decide) ?_
  refine mq_put (ci := 4) (v := .int 0) (ty := .int) (C := RJx4a65c) (T := TJx4a65c) (N := 3) (fs' := [.int 0, .null, .int 0]) hx hb hts nJx4a65c tyJx4a65c tyJx4a65c_ok nmJx4a65c hown hK hM hS hp rfl 0 (by decide) w3 (fun _ h9 => h9) rfl (by decide +kernel) rfl rfl (Nat.le_of_ble_eq_true rfl) dJxc12de_init_da8c8_6 rfl (fun f_1 H locs e_2 hM hS => ?_)
  have h_3 : f_1 x = some (.inr (4, [.int 0, .null, .int 0])) := mq_s e_2
  exact mq_vret hx hb hr hlocks hM hS (by rw [e_2]; exact (mq_id hp).symm) dJxc12de_init_da8c8_9

set_option maxHeartbeats 4000000 in
set_option maxRecDepth 100000 in
theorem c_Jx4a65c_init_da8c8 (l : Launch) (G : mq_G) (A : Nat → Prop) (f : mq_F) (x : Nat) : Met l yJx4a65c_init_da8c8 wsJx4a65c_init_da8c8 ({ frames := 3, cells := 0, slots := 0, locals := 64 } : Room) (mq_Pc G A f (f x = some (.inr (4, [.int 0, .null, .int 0]))) [.ref x]) (mq_Qv G A (fun g => g = mq_up f x (cLs 0 (sE G) 0))) 0 0 A := by
  refine Met.ofW (cc := cJx4a65c_init_da8c8) (maxL := 1) (ret := none) (by decide) rfl ?_
  intro p e s m args below meth c s₁ B hml hv
  obtain ⟨rfl, ⟨hK, hZ, hM, hA⟩, hp⟩ := hv
  have hx := B.exec
  have hb := B.bytes
  have hr := B.returns
  have hts := atoms_spec (ws := wsJx4a65c_init_da8c8) B.pre
  have hown : s.vm.findClass RJx4a65c = some m.cls := findClass_of_methodNamed B.named
  have hlocks := B.notSynchronized
  have hin : meth.name = "<init>" := (name_of_methodNamed B.named B.method).1
  have hS : va_S A s.heap s.heap [] := va_S.rf
  have hl := lv_entry ([.ref x]) (n := 1) (Nat.le_of_ble_eq_true rfl)
  rw [lg_entry_eq]
  generalize (lg_sl ([.ref x]) ++ List.replicate (1 - (lg_sl ([.ref x])).length) Slot.unset).toArray = ls at hl ⊢
  have hl : lv_has ls 1 [(0, .ref x)] := hl
  have w0 := hts (.initialized RJxc12de) (List.mem_of_getElem? (i := 5) rfl)
  have w1 := hts (.methodLink RJx4a65c 1 yJxc12de_init_da8c8) (List.mem_of_getElem? (i := 3) rfl)
  have w2 := hts (.instanceMethod yJxc12de_init_da8c8) (List.mem_of_getElem? (i := 4) rfl)
  have w3 := hts (.fieldLink RJx4a65c 39 "java/util/ArrayList" "DEFAULTCAPACITY_EMPTY_ELEMENTDATA" "[Ljava/lang/Object;") (List.mem_of_getElem? (i := 1) rfl)
  have w4 := hts (.fieldLink RJx4a65c 9 "java/util/ArrayList" "elementData" "[Ljava/lang/Object;") (List.mem_of_getElem? (i := 2) rfl)
  have nJx4a65c : ∀ w ∈ wsJx4a65c0, w ∈ wsJx4a65c_init_da8c8 := fun _ h => List.mem_cons_of_mem _ (List.mem_append_right _ h)
  refine lv_aload_n hx hb dJx4a65c_init_da8c8_0 rfl (lv_at hl 0 rfl) ?_
  refine mq_callv (va_runI (As := []) (rest := []) ⟨hx, hb, hml, hown, hts⟩ (c_Jxc12de_init_da8c8 l G A f x) (cwI 0 hts gJx4a65c_init_da8c8_Jxc12de_init_da8c8 rfl rfl rfl w0 w1 w2 rfl (by decide +kernel) ⟨Nat.le_of_ble_eq_true rfl, Nat.le_of_ble_eq_true rfl⟩) (mq_preS hK hZ hS hA hM (hp) _) rfl rfl hl.1 rfl (lv_room (Nat.le_of_ble_eq_true rfl)) dJx4a65c_init_da8c8_1 ⟨Nat.le_of_ble_eq_true rfl, Nat.le_of_ble_eq_true rfl⟩) hS (fun g1 H locs p1 hM hS => ?_)
  refine W.widen (k := 0) (n := 0) (Nat.le_of_ble_eq_true rfl) (Nat.le_of_ble_eq_true rfl) ?_
  obtain rfl := p1
  refine lv_aload_n hx hb dJx4a65c_init_da8c8_4 rfl (lv_at hl 0 rfl) ?_
  refine va_gets hx hb hZ.2.2.2.1.1 hS hown w3 (fun _ h9 => h9) dJx4a65c_init_da8c8_5 ?_
  refine mq_put (ci := 4) (v := .ref (sE G)) (ty := .array (.object "java/lang/Object")) (C := RJx4a65c) (T := TJx4a65c) (N := 3) (fs' := [.int 0, .ref (sE G), .int 0]) hx hb hts nJx4a65c tyJx4a65c tyJx4a65c_ok nmJx4a65c hown hK hM hS hp rfl 1 (by decide) w4 (fun _ h9 => h9) rfl (by decide +kernel) rfl rfl (Nat.le_of_ble_eq_true rfl) dJx4a65c_init_da8c8_8 rfl (fun f_1 H locs e_2 hM hS => ?_)
  have h_3 : f_1 x = some (.inr (4, [.int 0, .ref (sE G), .int 0])) := mq_s e_2
  exact mq_vret hx hb hr hlocks hM hS (e_2) dJx4a65c_init_da8c8_11

set_option maxHeartbeats 4000000 in
set_option maxRecDepth 100000 in
theorem c_Jx4a65c_size_8abf5 (l : Launch) (G : mq_G) (A : Nat → Prop) (f : mq_F) (x : Nat) (mo : Int32) (d n : Nat) : Met l yJx4a65c_size_8abf5 wsJx4a65c_size_8abf5 ({ frames := 0, cells := 0, slots := 0, locals := 0 } : Room) (mq_Pc G A f (f x = some (cLs mo d n)) [.ref x]) (mq_Qi G A (fun r g => f = g ∧ r = nI n)) 0 0 A := by
  refine Met.ofW (cc := cJx4a65c_size_8abf5) (maxL := 1) (ret := (some .int)) (by decide) rfl ?_
  intro p e s m args below meth c s₁ B hml hv
  obtain ⟨rfl, ⟨hK, hZ, hM, hA⟩, hp⟩ := hv
  have hx := B.exec
  have hb := B.bytes
  have hr := B.returns
  have hts := atoms_spec (ws := wsJx4a65c_size_8abf5) B.pre
  have hown : s.vm.findClass RJx4a65c = some m.cls := findClass_of_methodNamed B.named
  have hlocks := B.notSynchronized
  have hS : va_S A s.heap s.heap [] := va_S.rf
  have hl := lv_entry ([.ref x]) (n := 1) (Nat.le_of_ble_eq_true rfl)
  rw [lg_entry_eq]
  generalize (lg_sl ([.ref x]) ++ List.replicate (1 - (lg_sl ([.ref x])).length) Slot.unset).toArray = ls at hl ⊢
  have hl : lv_has ls 1 [(0, .ref x)] := hl
  have w0 := hts (.fieldLink RJx4a65c 48 "java/util/ArrayList" "size" "I") (List.mem_of_getElem? (i := 1) rfl)
  have nJx4a65c : ∀ w ∈ wsJx4a65c0, w ∈ wsJx4a65c_size_8abf5 := fun _ h => List.mem_cons_of_mem _ (List.mem_append_right _ h)
  refine lv_aload_n hx hb dJx4a65c_size_8abf5_0 rfl (lv_at hl 0 rfl) ?_
  refine mq_get (ci := 4) (v := .int (nI n)) (C := RJx4a65c) (T := TJx4a65c) (N := 3) hx hb hts nJx4a65c hown hK hM hp rfl 2 (by decide) w0 (fun _ h9 => h9) rfl dJx4a65c_size_8abf5_1 ?_
  exact mq_iret (v := nI n) hx hb hr hlocks hM hS (⟨rfl, rfl⟩) dJx4a65c_size_8abf5_4

set_option maxHeartbeats 4000000 in
set_option maxRecDepth 100000 in
theorem c_Jx4a65c_isEmpty_aae02 (l : Launch) (G : mq_G) (A : Nat → Prop) (f : mq_F) (x : Nat) (mo : Int32) (d n : Nat) : Met l yJx4a65c_isEmpty_aae02 wsJx4a65c_isEmpty_aae02 ({ frames := 0, cells := 0, slots := 0, locals := 0 } : Room) (mq_Pc G A f (f x = some (cLs mo d n) ∧ n ≤ 800) [.ref x]) (mq_Qi G A (fun r g => f = g ∧ r = zb (decide (n = 0)))) 0 0 A := by
  refine Met.ofW (cc := cJx4a65c_isEmpty_aae02) (maxL := 1) (ret := (some .boolean)) (by decide) rfl ?_
  intro p e s m args below meth c s₁ B hml hv
  obtain ⟨rfl, ⟨hK, hZ, hM, hA⟩, hp⟩ := hv
  have hx := B.exec
  have hb := B.bytes
  have hr := B.returns
  have hts := atoms_spec (ws := wsJx4a65c_isEmpty_aae02) B.pre
  have hown : s.vm.findClass RJx4a65c = some m.cls := findClass_of_methodNamed B.named
  have hlocks := B.notSynchronized
  have hS : va_S A s.heap s.heap [] := va_S.rf
  have hl := lv_entry ([.ref x]) (n := 1) (Nat.le_of_ble_eq_true rfl)
  rw [lg_entry_eq]
  generalize (lg_sl ([.ref x]) ++ List.replicate (1 - (lg_sl ([.ref x])).length) Slot.unset).toArray = ls at hl ⊢
  have hl : lv_has ls 1 [(0, .ref x)] := hl
  have w0 := hts (.fieldLink RJx4a65c 48 "java/util/ArrayList" "size" "I") (List.mem_of_getElem? (i := 1) rfl)
  have nJx4a65c : ∀ w ∈ wsJx4a65c0, w ∈ wsJx4a65c_isEmpty_aae02 := fun _ h => List.mem_cons_of_mem _ (List.mem_append_right _ h)
  obtain ⟨hp1, hp2⟩ := hp
  refine lv_aload_n hx hb dJx4a65c_isEmpty_aae02_0 rfl (lv_at hl 0 rfl) ?_
  refine mq_get (ci := 4) (v := .int (nI n)) (C := RJx4a65c) (T := TJx4a65c) (N := 3) hx hb hts nJx4a65c hown hK hM hp1 rfl 2 (by decide) w0 (fun _ h9 => h9) rfl dJx4a65c_isEmpty_aae02_1 ?_
  refine lv_if_ne (tgt := 11) hx hb dJx4a65c_isEmpty_aae02_4 (by decide) (fun c_4 => ?_) (fun c_4 => ?_)
  · replace c_4 : ¬ nI n = nI 0 := c_4
    rw [nI_eq (by omega) (by omega)] at c_4
    refine lv_iconst (v := 0) hx hb dJx4a65c_isEmpty_aae02_11 (by decide) ?_
    exact mq_zret (v := 0) hx hb hr (rfl) hlocks hM hS (⟨rfl, by rw [decide_eq_false c_4]; rfl⟩) dJx4a65c_isEmpty_aae02_12
  · replace c_4 : nI n = nI 0 := c_4
    rw [nI_eq (by omega) (by omega)] at c_4
    refine lv_iconst (v := 1) hx hb dJx4a65c_isEmpty_aae02_7 (by decide) ?_
    refine lv_goto (tgt := 12) hx hb dJx4a65c_isEmpty_aae02_8 (by decide) ?_
    exact mq_zret (v := 1) hx hb hr (rfl) hlocks hM hS (⟨rfl, by rw [decide_eq_true c_4]; rfl⟩) dJx4a65c_isEmpty_aae02_12

set_option maxHeartbeats 4000000 in
set_option maxRecDepth 100000 in
theorem c_J3_checkIndex_8e157 (l : Launch) (G : mq_G) (A : Nat → Prop) (f : mq_F) (i n : Nat) : Met l yJ3_checkIndex_8e157 wsJ3_checkIndex_8e157 ({ frames := 7, cells := 0, slots := 0, locals := 120 } : Room) (mq_Pc G A f (i < n ∧ n ≤ 800) [.int (nI i), .int (nI n), .null]) (mq_Qi G A (fun r g => f = g)) 0 0 A := by
  refine Met.ofW (cc := cJ3_checkIndex_8e157) (maxL := 3) (ret := (some .int)) (by decide) rfl ?_
  intro p e s m args below meth c s₁ B hml hv
  obtain ⟨rfl, ⟨hK, hZ, hM, hA⟩, hp⟩ := hv
  have hx := B.exec
  have hb := B.bytes
  have hr := B.returns
  have hts := atoms_spec (ws := wsJ3_checkIndex_8e157) B.pre
  have hown : s.vm.findClass RJ3 = some m.cls := findClass_of_methodNamed B.named
  have hlocks := B.notSynchronized
  have hS : va_S A s.heap s.heap [] := va_S.rf
  have hl := lv_entry ([.int (nI i), .int (nI n), .null]) (n := 3) (Nat.le_of_ble_eq_true rfl)
  rw [lg_entry_eq]
  generalize (lg_sl ([.int (nI i), .int (nI n), .null]) ++ List.replicate (3 - (lg_sl ([.int (nI i), .int (nI n), .null])).length) Slot.unset).toArray = ls at hl ⊢
  have hl : lv_has ls 3 [(0, .int (nI i)), (1, .int (nI n)), (2, .null)] := hl
  obtain ⟨hp1, hp2⟩ := hp
  refine lv_iload_n hx hb dJ3_checkIndex_8e157_0 rfl (lv_at hl 0 rfl) ?_
  refine lv_if_lt (tgt := 9) hx hb dJ3_checkIndex_8e157_1 (by decide) (fun c_1 => absurd c_1 (nI_pos (by omega))) (fun c_1 => ?_)
  refine lv_iload_n hx hb dJ3_checkIndex_8e157_4 rfl (lv_at hl 0 rfl) ?_
  refine lv_iload_n hx hb dJ3_checkIndex_8e157_5 rfl (lv_at hl 1 rfl) ?_
  refine lv_icmp_lt (tgt := 16) hx hb dJ3_checkIndex_8e157_6 (by decide) (fun c_6 => ?_) (fun c_6 => absurd c_6 (fun h9 => h9 (nI_lt hp1 (by omega))))
  refine lv_iload_n hx hb dJ3_checkIndex_8e157_16 rfl (lv_at hl 0 rfl) ?_
  exact mq_iret (v := nI i) hx hb hr hlocks hM hS (rfl) dJ3_checkIndex_8e157_17

set_option maxHeartbeats 4000000 in
set_option maxRecDepth 100000 in
theorem c_J15_checkIndex_7cf53 (l : Launch) (G : mq_G) (A : Nat → Prop) (f : mq_F) (i n : Nat) : Met l yJ15_checkIndex_7cf53 wsJ15_checkIndex_7cf53 ({ frames := 8, cells := 0, slots := 0, locals := 142 } : Room) (mq_Pc G A f (i < n ∧ n ≤ 800) [.int (nI i), .int (nI n)]) (mq_Qi G A (fun r g => f = g)) 0 0 A := by
  refine Met.ofW (cc := cJ15_checkIndex_7cf53) (maxL := 2) (ret := (some .int)) (by decide) rfl ?_
  intro p e s m args below meth c s₁ B hml hv
  obtain ⟨rfl, ⟨hK, hZ, hM, hA⟩, hp⟩ := hv
  have hx := B.exec
  have hb := B.bytes
  have hr := B.returns
  have hts := atoms_spec (ws := wsJ15_checkIndex_7cf53) B.pre
  have hown : s.vm.findClass RJ15 = some m.cls := findClass_of_methodNamed B.named
  have hlocks := B.notSynchronized
  have hS : va_S A s.heap s.heap [] := va_S.rf
  have hl := lv_entry ([.int (nI i), .int (nI n)]) (n := 2) (Nat.le_of_ble_eq_true rfl)
  rw [lg_entry_eq]
  generalize (lg_sl ([.int (nI i), .int (nI n)]) ++ List.replicate (2 - (lg_sl ([.int (nI i), .int (nI n)])).length) Slot.unset).toArray = ls at hl ⊢
  have hl : lv_has ls 2 [(0, .int (nI i)), (1, .int (nI n))] := hl
  refine lv_iload_n hx hb dJ15_checkIndex_7cf53_0 rfl (lv_at hl 0 rfl) ?_
  refine lv_iload_n hx hb dJ15_checkIndex_7cf53_1 rfl (lv_at hl 1 rfl) ?_
  refine lv_null hx hb dJ15_checkIndex_7cf53_2 ?_
  refine mq_calli (va_runS (As := [.int (nI i), .int (nI n), .null]) (rest := []) ⟨hx, hb, hml, hown, hts⟩ (c_J3_checkIndex_8e157 l G A f i n) (va_cwS 3 hts gJ15_checkIndex_7cf53_J3_checkIndex_8e157 rfl rfl rfl (by decide +kernel) ⟨Nat.le_of_ble_eq_true rfl, Nat.le_of_ble_eq_true rfl⟩) (mq_preS hK hZ hS hA hM (hp) _) rfl rfl hl.1 rfl (lv_room (Nat.le_of_ble_eq_true rfl)) dJ15_checkIndex_7cf53_3 ⟨Nat.le_of_ble_eq_true rfl, Nat.le_of_ble_eq_true rfl⟩) hS (fun r3 g3 H locs p3 hM hS => ?_)
  refine W.widen (k := 0) (n := 0) (Nat.le_of_ble_eq_true rfl) (Nat.le_of_ble_eq_true rfl) ?_
  obtain rfl := p3
  exact mq_iret (v := r3) hx hb hr hlocks hM hS (rfl) dJ15_checkIndex_7cf53_6

set_option maxHeartbeats 4000000 in
set_option maxRecDepth 100000 in
theorem c_Jx4a65c_elementData_915e3 (l : Launch) (G : mq_G) (A : Nat → Prop) (f : mq_F) (x : Nat) (mo : Int32) (d k n i : Nat) (gg : Nat → Nat) : Met l yJx4a65c_elementData_915e3 wsJx4a65c_elementData_915e3 ({ frames := 0, cells := 0, slots := 0, locals := 0 } : Room) (mq_Pc G A f (f x = some (cLs mo d n) ∧ f d = some (cRf (G.2 8) k (rf_of n (fun i => gg i))) ∧ i < n ∧ n ≤ k ∧ k ≤ 800) [.ref x, .int (nI i)]) (mq_Qq G A (fun r g => f = g ∧ r = some (gg i))) 0 0 A := by
  refine Met.ofW (cc := cJx4a65c_elementData_915e3) (maxL := 2) (ret := (some (.object "java/lang/Object"))) (by decide) rfl ?_
  intro p e s m args below meth c s₁ B hml hv
  obtain ⟨rfl, ⟨hK, hZ, hM, hA⟩, hp⟩ := hv
  have hx := B.exec
  have hb := B.bytes
  have hr := B.returns
  have hts := atoms_spec (ws := wsJx4a65c_elementData_915e3) B.pre
  have hown : s.vm.findClass RJx4a65c = some m.cls := findClass_of_methodNamed B.named
  have hlocks := B.notSynchronized
  have hS : va_S A s.heap s.heap [] := va_S.rf
  have hl := lv_entry ([.ref x, .int (nI i)]) (n := 2) (Nat.le_of_ble_eq_true rfl)
  rw [lg_entry_eq]
  generalize (lg_sl ([.ref x, .int (nI i)]) ++ List.replicate (2 - (lg_sl ([.ref x, .int (nI i)])).length) Slot.unset).toArray = ls at hl ⊢
  have hl : lv_has ls 2 [(0, .ref x), (1, .int (nI i))] := hl
  have w0 := hts (.fieldLink RJx4a65c 9 "java/util/ArrayList" "elementData" "[Ljava/lang/Object;") (List.mem_of_getElem? (i := 1) rfl)
  have nJx4a65c : ∀ w ∈ wsJx4a65c0, w ∈ wsJx4a65c_elementData_915e3 := fun _ h => List.mem_cons_of_mem _ (List.mem_append_right _ h)
  obtain ⟨hp1, hp2, h1, h2, h3⟩ := hp
  refine lv_aload_n hx hb dJx4a65c_elementData_915e3_0 rfl (lv_at hl 0 rfl) ?_
  refine mq_get (ci := 4) (v := .ref d) (C := RJx4a65c) (T := TJx4a65c) (N := 3) hx hb hts nJx4a65c hown hK hM hp1 rfl 1 (by decide) w0 (fun _ h9 => h9) rfl dJx4a65c_elementData_915e3_1 ?_
  refine lv_iload_n hx hb dJx4a65c_elementData_915e3_4 rfl (lv_at hl 1 rfl) ?_
  refine mq_aald (t0 := 8) (v := .ref (gg i)) hx hb hK hM rfl hp2 (vp_in_nI (by omega) (by omega)) (by rw [show (nI i : Int32).toNatClampNeg = i from nI_clamp (by omega)]; exact congrArg va_rf (rf_at (by omega))) dJx4a65c_elementData_915e3_5 ?_
  exact mq_aret (r := some (gg i)) rfl hx hb hr (Or.inl ⟨_, rfl⟩) hlocks hM hS (⟨rfl, rfl⟩) dJx4a65c_elementData_915e3_6

set_option maxHeartbeats 4000000 in
set_option maxRecDepth 100000 in
theorem c_Jx4a65c_get_915e3 (l : Launch) (G : mq_G) (A : Nat → Prop) (f : mq_F) (x : Nat) (mo : Int32) (d k n i : Nat) (gg : Nat → Nat) : Met l yJx4a65c_get_915e3 wsJx4a65c_get_915e3 ({ frames := 9, cells := 0, slots := 0, locals := 163 } : Room) (mq_Pc G A f (f x = some (cLs mo d n) ∧ f d = some (cRf (G.2 8) k (rf_of n (fun i => gg i))) ∧ i < n ∧ n ≤ k ∧ k ≤ 800) [.ref x, .int (nI i)]) (mq_Qq G A (fun r g => f = g ∧ r = some (gg i))) 0 0 A := by
  refine Met.ofW (cc := cJx4a65c_get_915e3) (maxL := 2) (ret := (some (.object "java/lang/Object"))) (by decide) rfl ?_
  intro p e s m args below meth c s₁ B hml hv
  obtain ⟨rfl, ⟨hK, hZ, hM, hA⟩, hp⟩ := hv
  have hx := B.exec
  have hb := B.bytes
  have hr := B.returns
  have hts := atoms_spec (ws := wsJx4a65c_get_915e3) B.pre
  have hown : s.vm.findClass RJx4a65c = some m.cls := findClass_of_methodNamed B.named
  have hlocks := B.notSynchronized
  have hS : va_S A s.heap s.heap [] := va_S.rf
  have hl := lv_entry ([.ref x, .int (nI i)]) (n := 2) (Nat.le_of_ble_eq_true rfl)
  rw [lg_entry_eq]
  generalize (lg_sl ([.ref x, .int (nI i)]) ++ List.replicate (2 - (lg_sl ([.ref x, .int (nI i)])).length) Slot.unset).toArray = ls at hl ⊢
  have hl : lv_has ls 2 [(0, .ref x), (1, .int (nI i))] := hl
  have w0 := hts (.fieldLink RJx4a65c 48 "java/util/ArrayList" "size" "I") (List.mem_of_getElem? (i := 1) rfl)
  have nJx4a65c : ∀ w ∈ wsJx4a65c0, w ∈ wsJx4a65c_get_915e3 := fun _ h => List.mem_cons_of_mem _ (List.mem_append_right _ h)
  obtain ⟨hp1, hp2, h1, h2, h3⟩ := hp
  refine lv_iload_n hx hb dJx4a65c_get_915e3_0 rfl (lv_at hl 1 rfl) ?_
  refine lv_aload_n hx hb dJx4a65c_get_915e3_1 rfl (lv_at hl 0 rfl) ?_
  refine mq_get (ci := 4) (v := .int (nI n)) (C := RJx4a65c) (T := TJx4a65c) (N := 3) hx hb hts nJx4a65c hown hK hM hp1 rfl 2 (by decide) w0 (fun _ h9 => h9) rfl dJx4a65c_get_915e3_2 ?_
  refine mq_calli (va_runS (As := [.int (nI i), .int (nI n)]) (rest := []) ⟨hx, hb, hml, hown, hts⟩ (c_J15_checkIndex_7cf53 l G A f i n) (va_cwS 2 hts gJx4a65c_get_915e3_J15_checkIndex_7cf53 rfl rfl rfl (by decide +kernel) ⟨Nat.le_of_ble_eq_true rfl, Nat.le_of_ble_eq_true rfl⟩) (mq_preS hK hZ hS hA hM (⟨h1, by omega⟩) _) rfl rfl hl.1 rfl (lv_room (Nat.le_of_ble_eq_true rfl)) dJx4a65c_get_915e3_5 ⟨Nat.le_of_ble_eq_true rfl, Nat.le_of_ble_eq_true rfl⟩) hS (fun r5 g5 H locs p5 hM hS => ?_)
  refine W.widen (k := 0) (n := 0) (Nat.le_of_ble_eq_true rfl) (Nat.le_of_ble_eq_true rfl) ?_
  obtain rfl := p5
  refine lv_pop hx hb dJx4a65c_get_915e3_8 rfl ?_
  refine lv_aload_n hx hb dJx4a65c_get_915e3_9 rfl (lv_at hl 0 rfl) ?_
  refine lv_iload_n hx hb dJx4a65c_get_915e3_10 rfl (lv_at hl 1 rfl) ?_
  refine mq_callq (va_runV (As := [.int (nI i)]) (rest := []) ⟨hx, hb, hml, hown, hts⟩ (c_Jx4a65c_elementData_915e3 l G A f x mo d k n i gg) (cwV 1 hts gJx4a65c_get_915e3_Jx4a65c_elementData_915e3 rfl rfl rfl (by decide +kernel) ⟨Nat.le_of_ble_eq_true rfl, Nat.le_of_ble_eq_true rfl⟩) (mq_preV hK hZ hS hA hM (q := (RJx4a65c, TJx4a65c, 3)) hp1 rfl (⟨hp1, hp2, h1, h2, h3⟩) _) rfl rfl hl.1 rfl (lv_room (Nat.le_of_ble_eq_true rfl)) dJx4a65c_get_915e3_11 ⟨Nat.le_of_ble_eq_true rfl, Nat.le_of_ble_eq_true rfl⟩) hS (fun r11 g11 H locs p11 hM hS => ?_)
  refine W.widen (k := 0) (n := 0) (Nat.le_of_ble_eq_true rfl) (Nat.le_of_ble_eq_true rfl) ?_
  obtain ⟨rfl, rfl⟩ := p11
  exact mq_aret (r := some (gg i)) rfl hx hb hr (Or.inl ⟨_, rfl⟩) hlocks hM hS (⟨rfl, rfl⟩) dJx4a65c_get_915e3_14

set_option maxHeartbeats 4000000 in
set_option maxRecDepth 100000 in
theorem c_J8_newLength_cabcc (l : Launch) (G : mq_G) (A : Nat → Prop) (f : mq_F) (k mg pg : Nat) : Met l yJ8_newLength_cabcc wsJ8_newLength_cabcc ({ frames := 1, cells := 0, slots := 0, locals := 40 } : Room) (mq_Pc G A f (k ≤ 800 ∧ 1 ≤ mg ∧ mg ≤ 800 ∧ pg ≤ 800) [.int (nI k), .int (nI mg), .int (nI pg)]) (mq_Qi G A (fun r g => f = g ∧ r = nI (k + max mg pg))) 0 0 A := by
  refine Met.ofW (cc := cJ8_newLength_cabcc) (maxL := 4) (ret := (some .int)) (by decide) rfl ?_
  intro p e s m args below meth c s₁ B hml hv
  obtain ⟨rfl, ⟨hK, hZ, hM, hA⟩, hp⟩ := hv
  have hx := B.exec
  have hb := B.bytes
  have hr := B.returns
  have hts := atoms_spec (ws := wsJ8_newLength_cabcc) B.pre
  have hown : s.vm.findClass RJ8 = some m.cls := findClass_of_methodNamed B.named
  have hlocks := B.notSynchronized
  have hS : va_S A s.heap s.heap [] := va_S.rf
  have hl := lv_entry ([.int (nI k), .int (nI mg), .int (nI pg)]) (n := 4) (Nat.le_of_ble_eq_true rfl)
  rw [lg_entry_eq]
  generalize (lg_sl ([.int (nI k), .int (nI mg), .int (nI pg)]) ++ List.replicate (4 - (lg_sl ([.int (nI k), .int (nI mg), .int (nI pg)])).length) Slot.unset).toArray = ls at hl ⊢
  have hl : lv_has ls 4 [(0, .int (nI k)), (1, .int (nI mg)), (2, .int (nI pg))] := hl
  have w0 := hts (.methodLink RJ8 194 Lib.Math.max.name) (List.mem_of_getElem? (i := 1) rfl)
  have w1 := hts (.static Lib.Math.max.name) (List.mem_of_getElem? (i := 2) rfl)
  have w2 := hts (.initialized "java/lang/Math") (List.mem_of_getElem? (i := 3) rfl)
  have w3 := hts (.code Lib.Math.max.name Lib.Math.max.code 2 (some .int)) (List.mem_of_getElem? (i := 4) rfl)
  have w4 := hts (.constant RJ8 200 (2147483639)) (List.mem_of_getElem? (i := 5) rfl)
  obtain ⟨h1, h2, h3, h4⟩ := hp
  refine lv_iload_n hx hb dJ8_newLength_cabcc_0 rfl (lv_at hl 0 rfl) ?_
  refine lv_iload_n hx hb dJ8_newLength_cabcc_1 rfl (lv_at hl 1 rfl) ?_
  refine lv_iload_n hx hb dJ8_newLength_cabcc_2 rfl (lv_at hl 2 rfl) ?_
  refine va_mmax hx hb (hml.trans hl.1.symm) hown w0 w1 w2 w3 (Nat.le_of_ble_eq_true rfl) (Nat.le_of_ble_eq_true rfl) (Nat.le_of_ble_eq_true rfl) (Nat.le_of_ble_eq_true rfl) dJ8_newLength_cabcc_3 ?_
  rw [show (if (nI mg) < (nI pg) then (nI pg) else (nI mg) : Int32) = nI (max mg pg) from nI_max (a := mg) (b := pg) (by omega) (by omega)]
  refine lv_iadd hx hb dJ8_newLength_cabcc_6 ?_
  rw [show (nI k) + (nI (max mg pg)) = nI (k + (max mg pg)) from nI_add _ _]
  refine lv_istore_n (lv' := [(3, .int (nI (k + (max mg pg)))), (0, .int (nI k)), (1, .int (nI mg)), (2, .int (nI pg))]) hx hb dJ8_newLength_cabcc_7 rfl hl (by decide) rfl (fun ls hl => ?_)
  refine lv_iconst (v := 0) hx hb dJ8_newLength_cabcc_8 (by decide) ?_
  refine lv_iload_n hx hb dJ8_newLength_cabcc_9 rfl (lv_at hl 0 rfl) ?_
  refine lv_icmp_ge (tgt := 21) hx hb dJ8_newLength_cabcc_10 (by decide) (fun c_10 => absurd c_10 (fun h9 => absurd ((nI_leI (a := k + max mg pg) (b := 0) (by omega) (by decide)).mp h9) (by omega))) (fun c_10 => ?_)
  refine lv_iload_n hx hb dJ8_newLength_cabcc_13 rfl (lv_at hl 0 rfl) ?_
  refine lv_ldc hx hb hown w4 dJ8_newLength_cabcc_14 ?_
  refine lv_icmp_gt (tgt := 21) hx hb dJ8_newLength_cabcc_16 (by decide) (fun c_16 => absurd c_16 (fun h9 => absurd ((nI_ltI (a := 2147483639) (b := k + max mg pg) (by decide) (by omega)).mp h9) (by omega))) (fun c_16 => ?_)
  refine lv_iload_n hx hb dJ8_newLength_cabcc_19 rfl (lv_at hl 0 rfl) ?_
  exact mq_iret (v := nI (k + (max mg pg))) hx hb hr hlocks hM hS (⟨rfl, rfl⟩) dJ8_newLength_cabcc_20

set_option maxHeartbeats 4000000 in
set_option maxRecDepth 100000 in
theorem c_J7_copyOf_6403c (l : Launch) (G : mq_G) (A : Nat → Prop) (f : mq_F) (d k n nl : Nat) (gg : Nat → Nat) : Met l yJ7_copyOf_6403c wsJ7_copyOf_6403c ({ frames := 1, cells := 1, slots := (nl), locals := 40 } : Room) (mq_Pc G A f (f d = some (cRf (G.2 8) k (rf_of n (fun i => gg i))) ∧ n ≤ k ∧ k ≤ nl ∧ nl ≤ 1600 ∧ ∀ i, i < n → mq_E G f (gg i)) [.ref d, .int (nI nl), .ref (sM G)]) (mq_Qq G A (fun r g => ∃ qd, r = some qd ∧ f qd = none ∧ g = mq_up f qd (cRf (G.2 8) nl (rf_of n (fun i => gg i))))) 1 (nl) A := by
  refine Met.ofW (cc := cJ7_copyOf_6403c) (maxL := 4) (ret := (some (.array (.object "java/lang/Object")))) (by decide) rfl ?_
  intro p e s m args below meth c s₁ B hml hv
  obtain ⟨rfl, ⟨hK, hZ, hM, hA⟩, hp⟩ := hv
  have hx := B.exec
  have hb := B.bytes
  have hr := B.returns
  have hts := atoms_spec (ws := wsJ7_copyOf_6403c) B.pre
  have hown : s.vm.findClass RJ7 = some m.cls := findClass_of_methodNamed B.named
  have hlocks := B.notSynchronized
  have hS : va_S A s.heap s.heap [] := va_S.rf
  have hl := lv_entry ([.ref d, .int (nI nl), .ref (sM G)]) (n := 4) (Nat.le_of_ble_eq_true rfl)
  rw [lg_entry_eq]
  generalize (lg_sl ([.ref d, .int (nI nl), .ref (sM G)]) ++ List.replicate (4 - (lg_sl ([.ref d, .int (nI nl), .ref (sM G)])).length) Slot.unset).toArray = ls at hl ⊢
  have hl : lv_has ls 4 [(0, .ref d), (1, .int (nI nl)), (2, .ref (sM G))] := hl
  have w0 := hts (.classLink RJ7 110 "[Ljava/lang/Object;") (List.mem_of_getElem? (i := 1) rfl)
  have w1 := hts (.classLink RJ7 2 "java/lang/Object") (List.mem_of_getElem? (i := 2) rfl)
  have w2 := hts (.methodLink RJ7 304 Lib.Math.min.name) (List.mem_of_getElem? (i := 3) rfl)
  have w3 := hts (.static Lib.Math.min.name) (List.mem_of_getElem? (i := 4) rfl)
  have w4 := hts (.initialized "java/lang/Math") (List.mem_of_getElem? (i := 5) rfl)
  have w5 := hts (.code Lib.Math.min.name Lib.Math.min.code 2 (some .int)) (List.mem_of_getElem? (i := 6) rfl)
  have w6 := hts (.methodLink RJ7 150 arraycopyName) (List.mem_of_getElem? (i := 7) rfl)
  have w7 := hts (.native arraycopyName) (List.mem_of_getElem? (i := 8) rfl)
  have w8 := hts (.static arraycopyName) (List.mem_of_getElem? (i := 9) rfl)
  have w9 := hts (.initialized "java/lang/System") (List.mem_of_getElem? (i := 10) rfl)
  obtain ⟨hp1, h1, h2, h3, h4⟩ := hp
  refine lv_aload_n hx hb dJ7_copyOf_6403c_0 rfl (lv_at hl 2 rfl) ?_
  refine va_ldcM hx hb hown w0 (mq_mir hZ) dJ7_copyOf_6403c_1 ?_
  refine lv_acmp_ne (rx := some (sM G)) (ry := some (sM G)) (tgt := 13) hx hb dJ7_copyOf_6403c_3 (by decide) (fun c_3 => absurd c_3 (fun h9 => h9 rfl)) (fun c_3 => ?_)
  refine lv_iload_n hx hb dJ7_copyOf_6403c_6 rfl (lv_at hl 1 rfl) ?_
  refine mq_newq (t0 := 8) (N' := nl) hx hb rfl hown w1 (mq_over hZ (by decide +kernel)) hK hM hS hA (nI_pos (by omega)) (nI_clamp (by omega)) (by omega) (Nat.le_of_ble_eq_true rfl) (by show 0 + nl ≤ (nl); omega) dJ7_copyOf_6403c_7 (fun q7 f_1 H hq7 e_2 hM hS => ?_)
  refine W.widen (k := 1) (n := (nl)) (Nat.le_of_ble_eq_true rfl) (by omega) ?_
  have h_3 : f_1 d = some (.inl (G.2 8, k, .inr (.inr (.inr (.inr (rf_of n (fun i => gg i))))))) := mq_n e_2 hp1 (mq_neN hp1 hq7)
  have h_4 : f_1 q7 = some (.inl (G.2 8, nl, .inr (.inr (.inr (.inr (fun _ => none)))))) := mq_s e_2
  refine lv_goto (tgt := 24) hx hb dJ7_copyOf_6403c_10 (by decide) ?_
  refine lv_astore_n (lv' := [(3, .ref q7), (0, .ref d), (1, .int (nI nl)), (2, .ref (sM G))]) hx hb dJ7_copyOf_6403c_24 rfl hl (by decide) rfl (fun ls hl => ?_)
  refine lv_aload_n hx hb dJ7_copyOf_6403c_25 rfl (lv_at hl 1 rfl) ?_
  refine lv_iconst (v := 0) hx hb dJ7_copyOf_6403c_26 (by decide) ?_
  refine lv_aload_n hx hb dJ7_copyOf_6403c_27 rfl (lv_at hl 0 rfl) ?_
  refine lv_iconst (v := 0) hx hb dJ7_copyOf_6403c_28 (by decide) ?_
  refine lv_aload_n hx hb dJ7_copyOf_6403c_29 rfl (lv_at hl 1 rfl) ?_
  refine mq_alen (t0 := 8) (v := nI k) hx hb hK hM rfl h_3 rfl dJ7_copyOf_6403c_30 ?_
  refine lv_iload_n hx hb dJ7_copyOf_6403c_31 rfl (lv_at hl 2 rfl) ?_
  refine va_mmin hx hb (hml.trans hl.1.symm) hown w2 w3 w4 w5 (Nat.le_of_ble_eq_true rfl) (Nat.le_of_ble_eq_true rfl) (Nat.le_of_ble_eq_true rfl) (by show (nl) + 0 ≤ (nl); omega) dJ7_copyOf_6403c_32 ?_
  rw [show (if (nI nl) < (nI k) then (nI nl) else (nI k) : Int32) = nI (min k nl) from nI_min (a := k) (b := nl) (by omega) (by omega)]
  refine mq_copyM hx hb (hml.trans hl.1.symm) hown w6 w7 w8 w9 hK hZ hM hS h_3 h_4 (n := nI (min k nl)) (nI_pos (by omega)) (by rw [nI_clamp (by omega)]; omega) (by rw [nI_clamp (by omega)]; omega) (fun i hi y hy => by
    by_cases hin : i < n
    · rw [show rf_of n (fun i => gg i) i = some (gg i) from rf_at hin] at hy; cases hy; subst e_2; exact (h4 i hin).upN hq7
    · rw [show rf_of n (fun i => gg i) i = none from if_neg hin] at hy; cases hy) (Nat.le_of_ble_eq_true rfl) (Nat.le_of_ble_eq_true rfl) dJ7_copyOf_6403c_35 (fun f_5 H locs e_6 hM hS => ?_)
  rw [show va_cpy (rf_of n (fun i => gg i)) (fun _ => none) 0 0 (nI (min k nl)).toNatClampNeg = rf_of n (fun i => gg i) from by rw [nI_clamp (by omega)]; exact cpy_rf (by omega) _ fun _ => rfl] at e_6
  have h_7 : f_5 d = some (.inl (G.2 8, k, .inr (.inr (.inr (.inr (rf_of n (fun i => gg i))))))) := mq_n e_6 h_3 (mq_neN hp1 hq7)
  have h_8 : f_5 q7 = some (.inl (G.2 8, nl, .inr (.inr (.inr (.inr (rf_of n (fun i => gg i))))))) := mq_s e_6
  refine lv_aload_n hx hb dJ7_copyOf_6403c_38 rfl (lv_at hl 0 rfl) ?_
  exact mq_aret (r := some q7) rfl hx hb hr (Or.inr ⟨_, rfl⟩) hlocks hM hS (⟨q7, rfl, hq7, by rw [e_6, e_2, mq_uu]⟩) dJ7_copyOf_6403c_39

set_option maxHeartbeats 4000000 in
set_option maxRecDepth 100000 in
theorem c_J7_copyOf_1904c (l : Launch) (G : mq_G) (A : Nat → Prop) (f : mq_F) (d k n nl : Nat) (gg : Nat → Nat) : Met l yJ7_copyOf_1904c wsJ7_copyOf_1904c ({ frames := 2, cells := 1, slots := (nl), locals := 63 } : Room) (mq_Pc G A f (f d = some (cRf (G.2 8) k (rf_of n (fun i => gg i))) ∧ n ≤ k ∧ k ≤ nl ∧ nl ≤ 1600 ∧ ∀ i, i < n → mq_E G f (gg i)) [.ref d, .int (nI nl)]) (mq_Qq G A (fun r g => ∃ qd, r = some qd ∧ f qd = none ∧ g = mq_up f qd (cRf (G.2 8) nl (rf_of n (fun i => gg i))))) 1 (nl) A := by
  refine Met.ofW (cc := cJ7_copyOf_1904c) (maxL := 2) (ret := (some (.array (.object "java/lang/Object")))) (by decide) rfl ?_
  intro p e s m args below meth c s₁ B hml hv
  obtain ⟨rfl, ⟨hK, hZ, hM, hA⟩, hp⟩ := hv
  have hx := B.exec
  have hb := B.bytes
  have hr := B.returns
  have hts := atoms_spec (ws := wsJ7_copyOf_1904c) B.pre
  have hown : s.vm.findClass RJ7 = some m.cls := findClass_of_methodNamed B.named
  have hlocks := B.notSynchronized
  have hS : va_S A s.heap s.heap [] := va_S.rf
  have hl := lv_entry ([.ref d, .int (nI nl)]) (n := 2) (Nat.le_of_ble_eq_true rfl)
  rw [lg_entry_eq]
  generalize (lg_sl ([.ref d, .int (nI nl)]) ++ List.replicate (2 - (lg_sl ([.ref d, .int (nI nl)])).length) Slot.unset).toArray = ls at hl ⊢
  have hl : lv_has ls 2 [(0, .ref d), (1, .int (nI nl))] := hl
  have w0 := hts (.methodLink RJ7 86 ⟨"java/lang/Object", "getClass", "()Ljava/lang/Class;"⟩) (List.mem_of_getElem? (i := 1) rfl)
  have w1 := hts (.selects "[Ljava/lang/Object;" ⟨"java/lang/Object", "getClass", "()Ljava/lang/Class;"⟩ ⟨"java/lang/Object", "getClass", "()Ljava/lang/Class;"⟩) (List.mem_of_getElem? (i := 2) rfl)
  have w2 := hts (.instanceMethod ⟨"java/lang/Object", "getClass", "()Ljava/lang/Class;"⟩) (List.mem_of_getElem? (i := 3) rfl)
  have w3 := hts (.native ⟨"java/lang/Object", "getClass", "()Ljava/lang/Class;"⟩) (List.mem_of_getElem? (i := 4) rfl)
  obtain ⟨hp1, hp2⟩ := hp
  refine lv_aload_n hx hb dJ7_copyOf_1904c_0 rfl (lv_at hl 0 rfl) ?_
  refine lv_iload_n hx hb dJ7_copyOf_1904c_1 rfl (lv_at hl 1 rfl) ?_
  refine lv_aload_n hx hb dJ7_copyOf_1904c_2 rfl (lv_at hl 0 rfl) ?_
  refine va_getC (C := "[Ljava/lang/Object;") hx hb (hml.trans hl.1.symm) hown w0 (mq_dec hZ) w1 w2 w3 (mq_mir hZ) (mq_recA hK hM hp1) (Nat.le_of_ble_eq_true rfl) (Nat.le_of_ble_eq_true rfl) dJ7_copyOf_1904c_3 ?_
  refine mq_callq (va_runS (As := [.ref d, .int (nI nl), .ref (sM G)]) (rest := []) ⟨hx, hb, hml, hown, hts⟩ (c_J7_copyOf_6403c l G A f d k n nl gg) (va_cwS 3 hts gJ7_copyOf_1904c_J7_copyOf_6403c rfl rfl rfl (by decide +kernel) ⟨Nat.le_of_ble_eq_true rfl, Nat.le_of_ble_eq_true rfl⟩) (mq_preS hK hZ hS hA hM (⟨hp1, hp2⟩) _) rfl rfl hl.1 rfl (lv_room (Nat.le_of_ble_eq_true rfl)) dJ7_copyOf_1904c_6 ⟨Nat.le_of_ble_eq_true rfl, by show 0 + (nl) ≤ (nl); omega⟩) hS (fun r6 g6 H locs p6 hM hS => ?_)
  refine W.widen (k := 1) (n := (nl)) (Nat.le_of_ble_eq_true rfl) (by omega) ?_
  obtain ⟨qd, er, hqd, hg⟩ := p6
  subst er
  exact mq_aret (r := some qd) rfl hx hb hr (Or.inr ⟨_, rfl⟩) hlocks hM hS (⟨qd, rfl, hqd, hg⟩) dJ7_copyOf_1904c_9

set_option maxHeartbeats 4000000 in
set_option maxRecDepth 100000 in
theorem c_Jx4a65c_grow_92f84 (l : Launch) (G : mq_G) (A : Nat → Prop) (f : mq_F) (x : Nat) (mo : Int32) (k d : Nat) (gg : Nat → Nat) (M : Nat) : Met l yJx4a65c_grow_92f84 wsJx4a65c_grow_92f84 ({ frames := 3, cells := 1, slots := (M), locals := 84 } : Room) (mq_Pc G A f (f x = some (cLs mo (lsD G k d) k) ∧ (k ≠ 0 → f d = some (cRf (G.2 8) k (rf_of k (fun i => gg i)))) ∧ k ≤ 512 ∧ nc k ≤ M ∧ ∀ i, i < k → mq_E G f (gg i)) [.ref x, .int (nI (k + 1))]) (mq_Qq G A (fun r g => ∃ qd, r = some qd ∧ f qd = none ∧ g = mq_up (mq_up f qd (cRf (G.2 8) (nc k) (rf_of k (fun i => gg i)))) x (cLs mo qd k))) 1 (M) A := by
  refine Met.ofW (cc := cJx4a65c_grow_92f84) (maxL := 4) (ret := (some (.array (.object "java/lang/Object")))) (by decide) rfl ?_
  intro p e s m args below meth c s₁ B hml hv
  obtain ⟨rfl, ⟨hK, hZ, hM, hA⟩, hp⟩ := hv
  have hx := B.exec
  have hb := B.bytes
  have hr := B.returns
  have hts := atoms_spec (ws := wsJx4a65c_grow_92f84) B.pre
  have hown : s.vm.findClass RJx4a65c = some m.cls := findClass_of_methodNamed B.named
  have hlocks := B.notSynchronized
  have hS : va_S A s.heap s.heap [] := va_S.rf
  have hl := lv_entry ([.ref x, .int (nI (k + 1))]) (n := 4) (Nat.le_of_ble_eq_true rfl)
  rw [lg_entry_eq]
  generalize (lg_sl ([.ref x, .int (nI (k + 1))]) ++ List.replicate (4 - (lg_sl ([.ref x, .int (nI (k + 1))])).length) Slot.unset).toArray = ls at hl ⊢
  have hl : lv_has ls 4 [(0, .ref x), (1, .int (nI (k + 1)))] := hl
  have w0 := hts (.fieldLink RJx4a65c 9 "java/util/ArrayList" "elementData" "[Ljava/lang/Object;") (List.mem_of_getElem? (i := 1) rfl)
  have w1 := hts (.fieldLink RJx4a65c 39 "java/util/ArrayList" "DEFAULTCAPACITY_EMPTY_ELEMENTDATA" "[Ljava/lang/Object;") (List.mem_of_getElem? (i := 2) rfl)
  have w2 := hts (.methodLink RJx4a65c 79 Lib.Math.max.name) (List.mem_of_getElem? (i := 3) rfl)
  have w3 := hts (.static Lib.Math.max.name) (List.mem_of_getElem? (i := 4) rfl)
  have w4 := hts (.initialized "java/lang/Math") (List.mem_of_getElem? (i := 5) rfl)
  have w5 := hts (.code Lib.Math.max.name Lib.Math.max.code 2 (some .int)) (List.mem_of_getElem? (i := 6) rfl)
  have w6 := hts (.classLink RJx4a65c 7 "java/lang/Object") (List.mem_of_getElem? (i := 7) rfl)
  have nJx4a65c : ∀ w ∈ wsJx4a65c0, w ∈ wsJx4a65c_grow_92f84 := fun _ h => List.mem_cons_of_mem _ (List.mem_append_right _ h)
  obtain ⟨hp1, hd, h1, h2, h3⟩ := hp
  refine lv_aload_n hx hb dJx4a65c_grow_92f84_0 rfl (lv_at hl 0 rfl) ?_
  refine mq_get (ci := 4) (v := .ref (lsD G k d)) (C := RJx4a65c) (T := TJx4a65c) (N := 3) hx hb hts nJx4a65c hown hK hM hp1 rfl 1 (by decide) w0 (fun _ h9 => h9) rfl dJx4a65c_grow_92f84_1 ?_
  refine mq_lenL hx hb hK hZ hM hS hd dJx4a65c_grow_92f84_4 ?_
  refine lv_istore_n (lv' := [(2, .int (nI k)), (0, .ref x), (1, .int (nI (k + 1)))]) hx hb dJx4a65c_grow_92f84_5 rfl hl (by decide) rfl (fun ls hl => ?_)
  refine lv_iload_n hx hb dJx4a65c_grow_92f84_6 rfl (lv_at hl 0 rfl) ?_
  refine lv_if_gt (tgt := 20) hx hb dJx4a65c_grow_92f84_7 (by decide) (fun c_7 => ?_) (fun c_7 => ?_)
  · replace c_7 : nI 0 < nI k := c_7
    rw [nI_ltI (by omega) (by omega)] at c_7
    have hk1 : k ≠ 0 := by omega
    have hd2 := hd hk1
    have hnc : k + max 1 (k / 2) ≤ M := by rw [show nc k = k + max 1 (k / 2) from if_neg hk1] at h2; exact h2
    refine lv_iload_n hx hb dJx4a65c_grow_92f84_20 rfl (lv_at hl 0 rfl) ?_
    refine lv_iload_n hx hb dJx4a65c_grow_92f84_21 rfl (lv_at hl 2 rfl) ?_
    refine lv_iload_n hx hb dJx4a65c_grow_92f84_22 rfl (lv_at hl 0 rfl) ?_
    refine lv_isub hx hb dJx4a65c_grow_92f84_23 ?_
    rw [show (nI (k + 1)) - (nI k) = nI 1 from (pk_sub (a := k + 1) (b := k) (by omega)).trans (congrArg nI (by omega))]
    refine lv_iload_n hx hb dJx4a65c_grow_92f84_24 rfl (lv_at hl 0 rfl) ?_
    refine lv_iconst (v := 1) hx hb dJx4a65c_grow_92f84_25 (by decide) ?_
    refine lv_ishr hx hb dJx4a65c_grow_92f84_26 ?_
    rw [show (nI k) >>> (1 &&& 31) = nI (k / 2) from sh1 (by omega)]
    refine mq_calli (va_runS (As := [.int (nI k), .int (nI 1), .int (nI (k / 2))]) (rest := []) ⟨hx, hb, hml, hown, hts⟩ (c_J8_newLength_cabcc l G A f k 1 (k / 2)) (va_cwS 3 hts gJx4a65c_grow_92f84_J8_newLength_cabcc rfl rfl rfl (by decide +kernel) ⟨Nat.le_of_ble_eq_true rfl, Nat.le_of_ble_eq_true rfl⟩) (mq_preS hK hZ hS hA hM (⟨by omega, by omega, by omega, by omega⟩) _) rfl rfl hl.1 rfl (lv_room (Nat.le_of_ble_eq_true rfl)) dJx4a65c_grow_92f84_27 ⟨Nat.le_of_ble_eq_true rfl, by show 0 + 0 ≤ (M); omega⟩) hS (fun r27 g27 H locs p27 hM hS => ?_)
    refine W.widen (k := 0) (n := 0) (Nat.le_of_ble_eq_true rfl) (Nat.le_of_ble_eq_true rfl) ?_
    obtain ⟨rfl, rfl⟩ := p27
    refine lv_istore_n (lv' := [(3, .int (nI (k + max 1 (k / 2)))), (2, .int (nI k)), (0, .ref x), (1, .int (nI (k + 1)))]) hx hb dJx4a65c_grow_92f84_30 rfl hl (by decide) rfl (fun ls hl => ?_)
    refine lv_aload_n hx hb dJx4a65c_grow_92f84_31 rfl (lv_at hl 2 rfl) ?_
    refine lv_aload_n hx hb dJx4a65c_grow_92f84_32 rfl (lv_at hl 2 rfl) ?_
    refine mq_get (ci := 4) (v := .ref (lsD G k d)) (C := RJx4a65c) (T := TJx4a65c) (N := 3) hx hb hts nJx4a65c hown hK hM hp1 rfl 1 (by decide) w0 (fun _ h9 => h9) rfl dJx4a65c_grow_92f84_33 ?_
    rw [lsD_1 hk1]
    refine lv_iload_n hx hb dJx4a65c_grow_92f84_36 rfl (lv_at hl 0 rfl) ?_
    refine mq_callq (va_runS (As := [.ref d, .int (nI (k + max 1 (k / 2)))]) (rest := [.ref x]) ⟨hx, hb, hml, hown, hts⟩ (c_J7_copyOf_1904c l G A f d k k (k + max 1 (k / 2)) gg) (va_cwS 2 hts gJx4a65c_grow_92f84_J7_copyOf_1904c rfl rfl rfl (by decide +kernel) ⟨Nat.le_of_ble_eq_true rfl, Nat.le_of_ble_eq_true rfl⟩) (mq_preS hK hZ hS hA hM (⟨hd2, Nat.le_refl _, by omega, by omega, h3⟩) _) rfl rfl hl.1 rfl (lv_room (Nat.le_of_ble_eq_true rfl)) dJx4a65c_grow_92f84_37 ⟨Nat.le_of_ble_eq_true rfl, by show 0 + ((k + max 1 (k / 2))) ≤ (M); omega⟩) hS (fun r37 g37 H locs p37 hM hS => ?_)
    refine W.widen (k := 1) (n := ((k + max 1 (k / 2)))) (Nat.le_of_ble_eq_true rfl) (by omega) ?_
    obtain ⟨qd, er, hqd, hg⟩ := p37
    subst er
    have h_1 : g37 x = some (.inr (4, [.int mo, .ref (lsD G k d), .int (nI k)])) := mq_n hg hp1 (mq_neN hp1 hqd)
    have h_2 : g37 d = some (.inl (G.2 8, k, .inr (.inr (.inr (.inr (rf_of k (fun i => gg i))))))) := mq_n hg hd2 (mq_neN hd2 hqd)
    have h_3 : g37 qd = some (.inl (G.2 8, (k + max 1 (k / 2)), .inr (.inr (.inr (.inr (rf_of k (fun i => gg i))))))) := mq_s hg
    refine lv_dup_x1 hx hb dJx4a65c_grow_92f84_40 rfl rfl ?_
    refine mq_put (ci := 4) (v := .ref qd) (ty := .array (.object "java/lang/Object")) (C := RJx4a65c) (T := TJx4a65c) (N := 3) (fs' := [.int mo, .ref qd, .int (nI k)]) hx hb hts nJx4a65c tyJx4a65c tyJx4a65c_ok nmJx4a65c hown hK hM hS h_1 rfl 1 (by decide) w0 (fun _ h9 => h9) rfl (by decide +kernel) rfl rfl (Nat.le_of_ble_eq_true rfl) dJx4a65c_grow_92f84_41 rfl (fun f_4 H locs e_5 hM hS => ?_)
    have h_6 : f_4 d = some (.inl (G.2 8, k, .inr (.inr (.inr (.inr (rf_of k (fun i => gg i))))))) := mq_n e_5 h_2 (mq_neB h_2 h_1)
    have h_7 : f_4 qd = some (.inl (G.2 8, (k + max 1 (k / 2)), .inr (.inr (.inr (.inr (rf_of k (fun i => gg i))))))) := mq_n e_5 h_3 (Ne.symm (mq_neN hp1 hqd))
    have h_8 : f_4 x = some (.inr (4, [.int mo, .ref qd, .int (nI k)])) := mq_s e_5
    refine W.widen (k := 1) (n := (M)) (Nat.le_of_ble_eq_true rfl) (by omega) ?_
    exact mq_aret (r := some qd) rfl hx hb hr (Or.inr ⟨_, rfl⟩) hlocks hM hS (⟨qd, rfl, hqd, by rw [e_5, hg, show nc k = k + max 1 (k / 2) from if_neg (by omega)]⟩) dJx4a65c_grow_92f84_44
  · replace c_7 : ¬ nI 0 < nI k := c_7
    rw [nI_ltI (by omega) (by omega)] at c_7
    have hM10 : 10 ≤ M := by rw [show nc k = 10 from if_pos (by omega)] at h2; exact h2
    refine lv_aload_n hx hb dJx4a65c_grow_92f84_10 rfl (lv_at hl 1 rfl) ?_
    refine mq_get (ci := 4) (v := .ref (lsD G k d)) (C := RJx4a65c) (T := TJx4a65c) (N := 3) hx hb hts nJx4a65c hown hK hM hp1 rfl 1 (by decide) w0 (fun _ h9 => h9) rfl dJx4a65c_grow_92f84_11 ?_
    refine va_gets hx hb hZ.2.2.2.1.1 hS hown w1 (fun _ h9 => h9) dJx4a65c_grow_92f84_14 ?_
    refine lv_acmp_eq (rx := some (lsD G k d)) (ry := some (sE G)) (tgt := 45) hx hb dJx4a65c_grow_92f84_17 (by decide) (fun c_17 => ?_) (fun c_17 => absurd c_17 (fun h9 => h9 (congrArg some (by rw [show k = 0 by omega]; exact lsD_0))))
    refine lv_aload_n hx hb dJx4a65c_grow_92f84_45 rfl (lv_at hl 1 rfl) ?_
    refine lv_bipush (v := 10) hx hb dJx4a65c_grow_92f84_46 (by decide) ?_
    refine lv_iload_n hx hb dJx4a65c_grow_92f84_48 rfl (lv_at hl 2 rfl) ?_
    refine va_mmax hx hb (hml.trans hl.1.symm) hown w2 w3 w4 w5 (Nat.le_of_ble_eq_true rfl) (Nat.le_of_ble_eq_true rfl) (Nat.le_of_ble_eq_true rfl) (by show 0 + 0 ≤ (M); omega) dJx4a65c_grow_92f84_49 ?_
    rw [show (if 10 < (nI (k + 1)) then (nI (k + 1)) else 10 : Int32) = nI (max 10 (k + 1)) from nI_max (a := 10) (b := k + 1) (by omega) (by omega)]
    refine mq_newq (t0 := 8) (N' := 10) hx hb rfl hown w6 (mq_over hZ (by decide +kernel)) hK hM hS hA (nI_pos (by omega)) (by rw [nI_clamp (by omega)]; omega) (Nat.le_of_ble_eq_true rfl) (Nat.le_of_ble_eq_true rfl) (by show 0 + 10 ≤ (M); omega) dJx4a65c_grow_92f84_52 (fun q52 f_9 H hq52 e_10 hM hS => ?_)
    refine W.widen (k := 1) (n := 10) (Nat.le_of_ble_eq_true rfl) (Nat.le_of_ble_eq_true rfl) ?_
    have h_11 : f_9 x = some (.inr (4, [.int mo, .ref (lsD G k d), .int (nI k)])) := mq_n e_10 hp1 (mq_neN hp1 hq52)
    have h_12 : f_9 q52 = some (.inl (G.2 8, 10, .inr (.inr (.inr (.inr (fun _ => none)))))) := mq_s e_10
    refine lv_dup_x1 hx hb dJx4a65c_grow_92f84_55 rfl rfl ?_
    refine mq_put (ci := 4) (v := .ref q52) (ty := .array (.object "java/lang/Object")) (C := RJx4a65c) (T := TJx4a65c) (N := 3) (fs' := [.int mo, .ref q52, .int (nI k)]) hx hb hts nJx4a65c tyJx4a65c tyJx4a65c_ok nmJx4a65c hown hK hM hS h_11 rfl 1 (by decide) w0 (fun _ h9 => h9) rfl (by decide +kernel) rfl rfl (Nat.le_of_ble_eq_true rfl) dJx4a65c_grow_92f84_56 rfl (fun f_13 H locs e_14 hM hS => ?_)
    have h_15 : f_13 q52 = some (.inl (G.2 8, 10, .inr (.inr (.inr (.inr (fun _ => none)))))) := mq_n e_14 h_12 (Ne.symm (mq_neN hp1 hq52))
    have h_16 : f_13 x = some (.inr (4, [.int mo, .ref q52, .int (nI k)])) := mq_s e_14
    refine W.widen (k := 1) (n := (M)) (Nat.le_of_ble_eq_true rfl) (by omega) ?_
    exact mq_aret (r := some q52) rfl hx hb hr (Or.inr ⟨_, rfl⟩) hlocks hM hS (⟨q52, rfl, hq52, by obtain rfl : k = 0 := (by omega); rw [e_14, e_10, show (fun _ => none : Nat → Option Nat) = rf_of 0 (fun i => gg i) from rf_0]; rfl⟩) dJx4a65c_grow_92f84_59

set_option maxHeartbeats 4000000 in
set_option maxRecDepth 100000 in
theorem c_Jx4a65c_grow_d5877 (l : Launch) (G : mq_G) (A : Nat → Prop) (f : mq_F) (x : Nat) (mo : Int32) (k d : Nat) (gg : Nat → Nat) (M : Nat) : Met l yJx4a65c_grow_d5877 wsJx4a65c_grow_d5877 ({ frames := 4, cells := 1, slots := (M), locals := 107 } : Room) (mq_Pc G A f (f x = some (cLs mo (lsD G k d) k) ∧ (k ≠ 0 → f d = some (cRf (G.2 8) k (rf_of k (fun i => gg i)))) ∧ k ≤ 512 ∧ nc k ≤ M ∧ ∀ i, i < k → mq_E G f (gg i)) [.ref x]) (mq_Qq G A (fun r g => ∃ qd, r = some qd ∧ f qd = none ∧ g = mq_up (mq_up f qd (cRf (G.2 8) (nc k) (rf_of k (fun i => gg i)))) x (cLs mo qd k))) 1 (M) A := by
  refine Met.ofW (cc := cJx4a65c_grow_d5877) (maxL := 1) (ret := (some (.array (.object "java/lang/Object")))) (by decide) rfl ?_
  intro p e s m args below meth c s₁ B hml hv
  obtain ⟨rfl, ⟨hK, hZ, hM, hA⟩, hp⟩ := hv
  have hx := B.exec
  have hb := B.bytes
  have hr := B.returns
  have hts := atoms_spec (ws := wsJx4a65c_grow_d5877) B.pre
  have hown : s.vm.findClass RJx4a65c = some m.cls := findClass_of_methodNamed B.named
  have hlocks := B.notSynchronized
  have hS : va_S A s.heap s.heap [] := va_S.rf
  have hl := lv_entry ([.ref x]) (n := 1) (Nat.le_of_ble_eq_true rfl)
  rw [lg_entry_eq]
  generalize (lg_sl ([.ref x]) ++ List.replicate (1 - (lg_sl ([.ref x])).length) Slot.unset).toArray = ls at hl ⊢
  have hl : lv_has ls 1 [(0, .ref x)] := hl
  have w0 := hts (.fieldLink RJx4a65c 48 "java/util/ArrayList" "size" "I") (List.mem_of_getElem? (i := 1) rfl)
  have nJx4a65c : ∀ w ∈ wsJx4a65c0, w ∈ wsJx4a65c_grow_d5877 := fun _ h => List.mem_cons_of_mem _ (List.mem_append_right _ h)
  obtain ⟨hp1, hp2⟩ := hp
  refine lv_aload_n hx hb dJx4a65c_grow_d5877_0 rfl (lv_at hl 0 rfl) ?_
  refine lv_aload_n hx hb dJx4a65c_grow_d5877_1 rfl (lv_at hl 0 rfl) ?_
  refine mq_get (ci := 4) (v := .int (nI k)) (C := RJx4a65c) (T := TJx4a65c) (N := 3) hx hb hts nJx4a65c hown hK hM hp1 rfl 2 (by decide) w0 (fun _ h9 => h9) rfl dJx4a65c_grow_d5877_2 ?_
  refine lv_iconst (v := 1) hx hb dJx4a65c_grow_d5877_5 (by decide) ?_
  refine lv_iadd hx hb dJx4a65c_grow_d5877_6 ?_
  rw [show (nI k) + 1 = nI (k + 1) from nI_add _ _]
  refine mq_callq (va_runV (As := [.int (nI (k + 1))]) (rest := []) ⟨hx, hb, hml, hown, hts⟩ (c_Jx4a65c_grow_92f84 l G A f x mo k d gg M) (cwV 1 hts gJx4a65c_grow_d5877_Jx4a65c_grow_92f84 rfl rfl rfl (by decide +kernel) ⟨Nat.le_of_ble_eq_true rfl, Nat.le_of_ble_eq_true rfl⟩) (mq_preV hK hZ hS hA hM (q := (RJx4a65c, TJx4a65c, 3)) hp1 rfl (⟨hp1, hp2⟩) _) rfl rfl hl.1 rfl (lv_room (Nat.le_of_ble_eq_true rfl)) dJx4a65c_grow_d5877_7 ⟨Nat.le_of_ble_eq_true rfl, by show 0 + (M) ≤ (M); omega⟩) hS (fun r7 g7 H locs p7 hM hS => ?_)
  refine W.widen (k := 1) (n := (M)) (Nat.le_of_ble_eq_true rfl) (by omega) ?_
  obtain ⟨qd, er, hqd, hg⟩ := p7
  subst er
  exact mq_aret (r := some qd) rfl hx hb hr (Or.inr ⟨_, rfl⟩) hlocks hM hS (⟨qd, rfl, hqd, hg⟩) dJx4a65c_grow_d5877_10

set_option maxHeartbeats 4000000 in
set_option maxRecDepth 100000 in
theorem c_Jx4a65c_add_72be8 (l : Launch) (G : mq_G) (A : Nat → Prop) (f : mq_F) (x y : Nat) (mo : Int32) (k d n : Nat) (gg : Nat → Nat) (M : Nat) : Met l yJx4a65c_add_72be8 wsJx4a65c_add_72be8 ({ frames := 5, cells := 1, slots := (M), locals := 127 } : Room) (mq_Pc G A f (f x = some (cLs mo (lsD G k d) n) ∧ (k ≠ 0 → f d = some (cRf (G.2 8) k (rf_of n (fun i => gg i)))) ∧ n ≤ k ∧ n < 512 ∧ k ≤ 800 ∧ (n = k → nc k ≤ M) ∧ (∀ i, i < n → mq_E G f (gg i)) ∧ mq_E G f y) [.ref x, .ref y, .ref (lsD G k d), .int (nI n)]) (mq_Qv G A (fun g => addP G f g x y mo k d n gg)) 1 (M) A := by
  refine Met.ofW (cc := cJx4a65c_add_72be8) (maxL := 4) (ret := none) (by decide) rfl ?_
  intro p e s m args below meth c s₁ B hml hv
  obtain ⟨rfl, ⟨hK, hZ, hM, hA⟩, hp⟩ := hv
  have hx := B.exec
  have hb := B.bytes
  have hr := B.returns
  have hts := atoms_spec (ws := wsJx4a65c_add_72be8) B.pre
  have hown : s.vm.findClass RJx4a65c = some m.cls := findClass_of_methodNamed B.named
  have hlocks := B.notSynchronized
  have hS : va_S A s.heap s.heap [] := va_S.rf
  have hl := lv_entry ([.ref x, .ref y, .ref (lsD G k d), .int (nI n)]) (n := 4) (Nat.le_of_ble_eq_true rfl)
  rw [lg_entry_eq]
  generalize (lg_sl ([.ref x, .ref y, .ref (lsD G k d), .int (nI n)]) ++ List.replicate (4 - (lg_sl ([.ref x, .ref y, .ref (lsD G k d), .int (nI n)])).length) Slot.unset).toArray = ls at hl ⊢
  have hl : lv_has ls 4 [(0, .ref x), (1, .ref y), (2, .ref (lsD G k d)), (3, .int (nI n))] := hl
  have w0 := hts (.fieldLink RJx4a65c 48 "java/util/ArrayList" "size" "I") (List.mem_of_getElem? (i := 1) rfl)
  have nJx4a65c : ∀ w ∈ wsJx4a65c0, w ∈ wsJx4a65c_add_72be8 := fun _ h => List.mem_cons_of_mem _ (List.mem_append_right _ h)
  obtain ⟨hp1, hd, h1, h2, h3, h4, h5, h6⟩ := hp
  refine lv_iload_n hx hb dJx4a65c_add_72be8_0 rfl (lv_at hl 3 rfl) ?_
  refine lv_aload_n hx hb dJx4a65c_add_72be8_1 rfl (lv_at hl 2 rfl) ?_
  refine mq_lenL hx hb hK hZ hM hS hd dJx4a65c_add_72be8_2 ?_
  refine lv_icmp_ne (tgt := 11) hx hb dJx4a65c_add_72be8_3 (by decide) (fun c_3 => ?_) (fun c_3 => ?_)
  · replace c_3 : ¬ nI n = nI k := c_3
    rw [nI_eq (by omega) (by omega)] at c_3
    have hk1 : k ≠ 0 := by omega
    have hd2 := hd hk1
    rw [lsD_1 hk1] at hl hp1
    refine lv_aload_n hx hb dJx4a65c_add_72be8_11 rfl (lv_at hl 2 rfl) ?_
    refine lv_iload_n hx hb dJx4a65c_add_72be8_12 rfl (lv_at hl 3 rfl) ?_
    refine lv_aload_n hx hb dJx4a65c_add_72be8_13 rfl (lv_at hl 1 rfl) ?_
    refine mq_astE hx hb hK hZ hM hS hd2 (h6) (vp_in_nI (by omega) (by omega)) dJx4a65c_add_72be8_14 (fun f_1 H locs e_2 hM hS => ?_)
    rw [show (nI n : Int32).toNatClampNeg = n from nI_clamp (by omega)] at e_2
    rw [show (va_up (rf_of n (fun i => gg i)) n (some y)) = (rf_of (n + 1) (fun i => if i = n then y else gg i)) from rf_S] at e_2
    have h_3 : f_1 x = some (.inr (4, [.int mo, .ref d, .int (nI n)])) := mq_n e_2 hp1 (mq_neA hp1 hd2)
    have h_4 : f_1 d = some (.inl (G.2 8, k, .inr (.inr (.inr (.inr (rf_of (n + 1) (fun i => if i = n then y else gg i))))))) := mq_s e_2
    refine lv_aload_n hx hb dJx4a65c_add_72be8_15 rfl (lv_at hl 0 rfl) ?_
    refine lv_iload_n hx hb dJx4a65c_add_72be8_16 rfl (lv_at hl 3 rfl) ?_
    refine lv_iconst (v := 1) hx hb dJx4a65c_add_72be8_17 (by decide) ?_
    refine lv_iadd hx hb dJx4a65c_add_72be8_18 ?_
    rw [show (nI n) + 1 = nI (n + 1) from nI_add _ _]
    refine mq_put (ci := 4) (v := .int (nI (n + 1))) (ty := .int) (C := RJx4a65c) (T := TJx4a65c) (N := 3) (fs' := [.int mo, .ref d, .int (nI (n + 1))]) hx hb hts nJx4a65c tyJx4a65c tyJx4a65c_ok nmJx4a65c hown hK hM hS h_3 rfl 2 (by decide) w0 (fun _ h9 => h9) rfl (by decide +kernel) rfl rfl (Nat.le_of_ble_eq_true rfl) dJx4a65c_add_72be8_19 rfl (fun f_5 H locs e_6 hM hS => ?_)
    have h_7 : f_5 d = some (.inl (G.2 8, k, .inr (.inr (.inr (.inr (rf_of (n + 1) (fun i => if i = n then y else gg i))))))) := mq_n e_6 h_4 (mq_neB h_4 h_3)
    have h_8 : f_5 x = some (.inr (4, [.int mo, .ref d, .int (nI (n + 1))])) := mq_s e_6
    refine W.widen (k := 1) (n := (M)) (Nat.le_of_ble_eq_true rfl) (by omega) ?_
    exact mq_vret hx hb hr hlocks hM hS (Or.inl ⟨by omega, by rw [e_6, e_2]⟩) dJx4a65c_add_72be8_22
  · replace c_3 : nI n = nI k := c_3
    rw [nI_eq (by omega) (by omega)] at c_3
    subst c_3
    refine lv_aload_n hx hb dJx4a65c_add_72be8_6 rfl (lv_at hl 0 rfl) ?_
    refine mq_callq (va_runV (As := []) (rest := []) ⟨hx, hb, hml, hown, hts⟩ (c_Jx4a65c_grow_d5877 l G A f x mo n d gg M) (cwV 0 hts gJx4a65c_add_72be8_Jx4a65c_grow_d5877 rfl rfl rfl (by decide +kernel) ⟨Nat.le_of_ble_eq_true rfl, Nat.le_of_ble_eq_true rfl⟩) (mq_preV hK hZ hS hA hM (q := (RJx4a65c, TJx4a65c, 3)) hp1 rfl (⟨hp1, hd, by omega, h4 rfl, h5⟩) _) rfl rfl hl.1 rfl (lv_room (Nat.le_of_ble_eq_true rfl)) dJx4a65c_add_72be8_7 ⟨Nat.le_of_ble_eq_true rfl, by show 0 + (M) ≤ (M); omega⟩) hS (fun r7 g7 H locs p7 hM hS => ?_)
    refine W.widen (k := 1) (n := (M)) (Nat.le_of_ble_eq_true rfl) (by omega) ?_
    obtain ⟨qd, er, hqd, hg6⟩ := p7
    subst er
    have hqx : x ≠ qd := mq_neN hp1 hqd
    have vx : g7 x = some (cLs mo qd n) := mq_s hg6
    have vq : g7 qd = some (cRf (G.2 8) (nc n) (rf_of n (fun i => gg i))) := by rw [hg6, mq_up_n (Ne.symm hqx)]; exact mq_up_s
    have hnc : n < nc n ∧ nc n ≤ 2000 := by unfold nc; split <;> omega
    have h6 : mq_E G g7 y := by rw [hg6]; exact (h6.upN hqd).upL (mo := mo) (el := lsD G n d) (n := n) (by rw [mq_up_n hqx]; exact hp1)
    refine lv_astore_n (lv' := [(2, .ref qd), (0, .ref x), (1, .ref y), (3, .int (nI n))]) hx hb dJx4a65c_add_72be8_10 rfl hl (by decide) rfl (fun ls hl => ?_)
    refine lv_aload_n hx hb dJx4a65c_add_72be8_11 rfl (lv_at hl 0 rfl) ?_
    refine lv_iload_n hx hb dJx4a65c_add_72be8_12 rfl (lv_at hl 3 rfl) ?_
    refine lv_aload_n hx hb dJx4a65c_add_72be8_13 rfl (lv_at hl 2 rfl) ?_
    refine mq_astE hx hb hK hZ hM hS vq (h6) (vp_in_nI (by omega) (by omega)) dJx4a65c_add_72be8_14 (fun f_9 H locs e_10 hM hS => ?_)
    rw [show (nI n : Int32).toNatClampNeg = n from nI_clamp (by omega)] at e_10
    rw [show (va_up (rf_of n (fun i => gg i)) n (some y)) = (rf_of (n + 1) (fun i => if i = n then y else gg i)) from rf_S] at e_10
    have h_11 : f_9 x = some (.inr (4, [.int mo, .ref qd, .int (nI n)])) := mq_n e_10 vx (mq_neA vx vq)
    have h_12 : f_9 qd = some (.inl (G.2 8, (nc n), .inr (.inr (.inr (.inr (rf_of (n + 1) (fun i => if i = n then y else gg i))))))) := mq_s e_10
    refine lv_aload_n hx hb dJx4a65c_add_72be8_15 rfl (lv_at hl 1 rfl) ?_
    refine lv_iload_n hx hb dJx4a65c_add_72be8_16 rfl (lv_at hl 3 rfl) ?_
    refine lv_iconst (v := 1) hx hb dJx4a65c_add_72be8_17 (by decide) ?_
    refine lv_iadd hx hb dJx4a65c_add_72be8_18 ?_
    rw [show (nI n) + 1 = nI (n + 1) from nI_add _ _]
    refine mq_put (ci := 4) (v := .int (nI (n + 1))) (ty := .int) (C := RJx4a65c) (T := TJx4a65c) (N := 3) (fs' := [.int mo, .ref qd, .int (nI (n + 1))]) hx hb hts nJx4a65c tyJx4a65c tyJx4a65c_ok nmJx4a65c hown hK hM hS h_11 rfl 2 (by decide) w0 (fun _ h9 => h9) rfl (by decide +kernel) rfl rfl (Nat.le_of_ble_eq_true rfl) dJx4a65c_add_72be8_19 rfl (fun f_13 H locs e_14 hM hS => ?_)
    have h_15 : f_13 qd = some (.inl (G.2 8, (nc n), .inr (.inr (.inr (.inr (rf_of (n + 1) (fun i => if i = n then y else gg i))))))) := mq_n e_14 h_12 (mq_neB h_12 h_11)
    have h_16 : f_13 x = some (.inr (4, [.int mo, .ref qd, .int (nI (n + 1))])) := mq_s e_14
    exact mq_vret hx hb hr hlocks hM hS (Or.inr ⟨rfl, qd, hqd, by rw [e_14, e_10, hg6, mq_uc (hqx), mq_uu, mq_uu]⟩) dJx4a65c_add_72be8_22

set_option maxHeartbeats 4000000 in
set_option maxRecDepth 100000 in
theorem c_Jx4a65c_add_9ea2d (l : Launch) (G : mq_G) (A : Nat → Prop) (f : mq_F) (x y : Nat) (mo : Int32) (k d n : Nat) (gg : Nat → Nat) (M : Nat) : Met l yJx4a65c_add_9ea2d wsJx4a65c_add_9ea2d ({ frames := 6, cells := 1, slots := (M), locals := 150 } : Room) (mq_Pc G A f (f x = some (cLs mo (lsD G k d) n) ∧ (k ≠ 0 → f d = some (cRf (G.2 8) k (rf_of n (fun i => gg i)))) ∧ n ≤ k ∧ n < 512 ∧ k ≤ 800 ∧ (n = k → nc k ≤ M) ∧ (∀ i, i < n → mq_E G f (gg i)) ∧ mq_E G f y) [.ref x, .ref y]) (mq_Qi G A (fun r g => addP G f g x y (mo + 1) k d n gg ∧ r = 1)) 1 (M) A := by
  refine Met.ofW (cc := cJx4a65c_add_9ea2d) (maxL := 2) (ret := (some .boolean)) (by decide) rfl ?_
  intro p e s m args below meth c s₁ B hml hv
  obtain ⟨rfl, ⟨hK, hZ, hM, hA⟩, hp⟩ := hv
  have hx := B.exec
  have hb := B.bytes
  have hr := B.returns
  have hts := atoms_spec (ws := wsJx4a65c_add_9ea2d) B.pre
  have hown : s.vm.findClass RJx4a65c = some m.cls := findClass_of_methodNamed B.named
  have hlocks := B.notSynchronized
  have hS : va_S A s.heap s.heap [] := va_S.rf
  have hl := lv_entry ([.ref x, .ref y]) (n := 2) (Nat.le_of_ble_eq_true rfl)
  rw [lg_entry_eq]
  generalize (lg_sl ([.ref x, .ref y]) ++ List.replicate (2 - (lg_sl ([.ref x, .ref y])).length) Slot.unset).toArray = ls at hl ⊢
  have hl : lv_has ls 2 [(0, .ref x), (1, .ref y)] := hl
  have w0 := hts (.fieldLink RJx4a65c 63 "java/util/ArrayList" "modCount" "I") (List.mem_of_getElem? (i := 1) rfl)
  have w1 := hts (.sameField "java/util/ArrayList" "java/util/AbstractList" "modCount" "I") (List.mem_of_getElem? (i := 2) rfl)
  have w2 := hts (.fieldLink RJx4a65c 9 "java/util/ArrayList" "elementData" "[Ljava/lang/Object;") (List.mem_of_getElem? (i := 3) rfl)
  have w3 := hts (.fieldLink RJx4a65c 48 "java/util/ArrayList" "size" "I") (List.mem_of_getElem? (i := 4) rfl)
  have nJx4a65c : ∀ w ∈ wsJx4a65c0, w ∈ wsJx4a65c_add_9ea2d := fun _ h => List.mem_cons_of_mem _ (List.mem_append_right _ h)
  obtain ⟨hp1, hd, h1, h2, h3, h4, h5, h6⟩ := hp
  refine lv_aload_n hx hb dJx4a65c_add_9ea2d_0 rfl (lv_at hl 0 rfl) ?_
  refine lv_dup hx hb dJx4a65c_add_9ea2d_1 rfl ?_
  refine mq_get (ci := 4) (v := .int mo) (C := RJx4a65c) (T := TJx4a65c) (N := 3) hx hb hts nJx4a65c hown hK hM hp1 rfl 0 (by decide) w0 (fun x9 h9 => u_same w1 x9 h9) rfl dJx4a65c_add_9ea2d_2 ?_
  refine lv_iconst (v := 1) hx hb dJx4a65c_add_9ea2d_5 (by decide) ?_
  refine lv_iadd hx hb dJx4a65c_add_9ea2d_6 ?_
  refine mq_put (ci := 4) (v := .int (mo + 1)) (ty := .int) (C := RJx4a65c) (T := TJx4a65c) (N := 3) (fs' := [.int (mo + 1), .ref (lsD G k d), .int (nI n)]) hx hb hts nJx4a65c tyJx4a65c tyJx4a65c_ok nmJx4a65c hown hK hM hS hp1 rfl 0 (by decide) w0 (fun x9 h9 => u_same w1 x9 h9) rfl (by decide +kernel) rfl rfl (Nat.le_of_ble_eq_true rfl) dJx4a65c_add_9ea2d_7 rfl (fun f_1 H locs e_2 hM hS => ?_)
  have h_3 : f_1 x = some (.inr (4, [.int (mo + 1), .ref (lsD G k d), .int (nI n)])) := mq_s e_2
  refine lv_aload_n hx hb dJx4a65c_add_9ea2d_10 rfl (lv_at hl 0 rfl) ?_
  refine lv_aload_n hx hb dJx4a65c_add_9ea2d_11 rfl (lv_at hl 1 rfl) ?_
  refine lv_aload_n hx hb dJx4a65c_add_9ea2d_12 rfl (lv_at hl 0 rfl) ?_
  refine mq_get (ci := 4) (v := .ref (lsD G k d)) (C := RJx4a65c) (T := TJx4a65c) (N := 3) hx hb hts nJx4a65c hown hK hM h_3 rfl 1 (by decide) w2 (fun _ h9 => h9) rfl dJx4a65c_add_9ea2d_13 ?_
  refine lv_aload_n hx hb dJx4a65c_add_9ea2d_16 rfl (lv_at hl 0 rfl) ?_
  refine mq_get (ci := 4) (v := .int (nI n)) (C := RJx4a65c) (T := TJx4a65c) (N := 3) hx hb hts nJx4a65c hown hK hM h_3 rfl 2 (by decide) w3 (fun _ h9 => h9) rfl dJx4a65c_add_9ea2d_17 ?_
  refine mq_callv (va_runV (As := [.ref y, .ref (lsD G k d), .int (nI n)]) (rest := []) ⟨hx, hb, hml, hown, hts⟩ (c_Jx4a65c_add_72be8 l G A f_1 x y (mo + 1) k d n gg M) (cwV 3 hts gJx4a65c_add_9ea2d_Jx4a65c_add_72be8 rfl rfl rfl (by decide +kernel) ⟨Nat.le_of_ble_eq_true rfl, Nat.le_of_ble_eq_true rfl⟩) (mq_preV hK hZ hS hA hM (q := (RJx4a65c, TJx4a65c, 3)) h_3 rfl (⟨h_3, fun q => mq_n e_2 (hd q) (mq_neB (hd q) hp1), h1, h2, h3, h4, fun i hi => by rw [e_2]; exact (h5 i hi).upL hp1, by rw [e_2]; exact h6.upL hp1⟩) _) rfl rfl hl.1 rfl (lv_room (Nat.le_of_ble_eq_true rfl)) dJx4a65c_add_9ea2d_20 ⟨Nat.le_of_ble_eq_true rfl, by show 0 + (M) ≤ (M); omega⟩) hS (fun g20 H locs p20 hM hS => ?_)
  refine W.widen (k := 1) (n := (M)) (Nat.le_of_ble_eq_true rfl) (by omega) ?_
  refine lv_iconst (v := 1) hx hb dJx4a65c_add_9ea2d_23 (by decide) ?_
  exact mq_zret (v := 1) hx hb hr (rfl) hlocks hM hS (⟨addP.back e_2 (fun q => mq_neB (hd (by omega)) hp1) p20, rfl⟩) dJx4a65c_add_9ea2d_24

theorem clr_fn {j : Nat} {h : Nat → Option Nat} : va_up (fun i => if i < j then none else h i) j none = fun i => if i < j + 1 then none else h i := by
  funext i
  show (if i = j then none else if i < j then none else h i) = if i < j + 1 then none else h i
  by_cases h1 : i = j
  · rw [if_pos h1, if_pos (by omega)]
  · rw [if_neg h1]
    by_cases h2 : i < j
    · rw [if_pos h2, if_pos (by omega)]
    · rw [if_neg h2, if_neg (by omega)]
theorem clr_end {j n i : Nat} {gg : Nat → Nat} (h : n ≤ j) : (if i < j then none else rf_of n gg i) = rf_of 0 gg i := by
  show _ = (if i < 0 then _ else none)
  rw [if_neg (Nat.not_lt_zero i)]
  by_cases h1 : i < j
  · rw [if_pos h1]
  · rw [if_neg h1]; exact if_neg (by omega)

set_option maxHeartbeats 4000000 in
set_option maxRecDepth 100000 in
theorem c_Jx4a65c_clear_da8c8 (l : Launch) (G : mq_G) (A : Nat → Prop) (f : mq_F) (x : Nat) (mo : Int32) (el k d n : Nat) (gg : Nat → Nat) : Met l yJx4a65c_clear_da8c8 wsJx4a65c_clear_da8c8 ({ frames := 0, cells := 0, slots := 0, locals := 0 } : Room) (mq_Pc G A f (f x = some (cLs mo el n) ∧ (k ≠ 0 → el = d) ∧ (k ≠ 0 → f d = some (cRf (G.2 8) k (rf_of n (fun i => gg i)))) ∧ n ≤ k ∧ k ≤ 800) [.ref x]) (mq_Qv G A (fun g => g x = some (cLs (mo + 1) el 0) ∧ (k ≠ 0 → g d = some (cRf (G.2 8) k (rf_of 0 (fun i => gg i)))) ∧ ∀ y, y ≠ x → (k ≠ 0 → y ≠ d) → g y = f y)) 0 0 A := by
  refine Met.ofW (cc := cJx4a65c_clear_da8c8) (maxL := 4) (ret := none) (by decide) rfl ?_
  intro p e s m args below meth c s₁ B hml hv
  obtain ⟨rfl, ⟨hK, hZ, hM, hA⟩, hp⟩ := hv
  have hx := B.exec
  have hb := B.bytes
  have hr := B.returns
  have hts := atoms_spec (ws := wsJx4a65c_clear_da8c8) B.pre
  have hown : s.vm.findClass RJx4a65c = some m.cls := findClass_of_methodNamed B.named
  have hlocks := B.notSynchronized
  have hS : va_S A s.heap s.heap [] := va_S.rf
  have hl := lv_entry ([.ref x]) (n := 4) (Nat.le_of_ble_eq_true rfl)
  rw [lg_entry_eq]
  generalize (lg_sl ([.ref x]) ++ List.replicate (4 - (lg_sl ([.ref x])).length) Slot.unset).toArray = ls at hl ⊢
  have hl : lv_has ls 4 [(0, .ref x)] := hl
  have w0 := hts (.fieldLink RJx4a65c 63 "java/util/ArrayList" "modCount" "I") (List.mem_of_getElem? (i := 1) rfl)
  have w1 := hts (.sameField "java/util/ArrayList" "java/util/AbstractList" "modCount" "I") (List.mem_of_getElem? (i := 2) rfl)
  have w2 := hts (.fieldLink RJx4a65c 9 "java/util/ArrayList" "elementData" "[Ljava/lang/Object;") (List.mem_of_getElem? (i := 3) rfl)
  have w3 := hts (.fieldLink RJx4a65c 48 "java/util/ArrayList" "size" "I") (List.mem_of_getElem? (i := 4) rfl)
  have nJx4a65c : ∀ w ∈ wsJx4a65c0, w ∈ wsJx4a65c_clear_da8c8 := fun _ h => List.mem_cons_of_mem _ (List.mem_append_right _ h)
  obtain ⟨hp1, hel, hd, h1, h2⟩ := hp
  refine lv_aload_n hx hb dJx4a65c_clear_da8c8_0 rfl (lv_at hl 0 rfl) ?_
  refine lv_dup hx hb dJx4a65c_clear_da8c8_1 rfl ?_
  refine mq_get (ci := 4) (v := .int mo) (C := RJx4a65c) (T := TJx4a65c) (N := 3) hx hb hts nJx4a65c hown hK hM hp1 rfl 0 (by decide) w0 (fun x9 h9 => u_same w1 x9 h9) rfl dJx4a65c_clear_da8c8_2 ?_
  refine lv_iconst (v := 1) hx hb dJx4a65c_clear_da8c8_5 (by decide) ?_
  refine lv_iadd hx hb dJx4a65c_clear_da8c8_6 ?_
  refine mq_put (ci := 4) (v := .int (mo + 1)) (ty := .int) (C := RJx4a65c) (T := TJx4a65c) (N := 3) (fs' := [.int (mo + 1), .ref el, .int (nI n)]) hx hb hts nJx4a65c tyJx4a65c tyJx4a65c_ok nmJx4a65c hown hK hM hS hp1 rfl 0 (by decide) w0 (fun x9 h9 => u_same w1 x9 h9) rfl (by decide +kernel) rfl rfl (Nat.le_of_ble_eq_true rfl) dJx4a65c_clear_da8c8_7 rfl (fun f_1 H locs e_2 hM hS => ?_)
  have h_3 : f_1 x = some (.inr (4, [.int (mo + 1), .ref el, .int (nI n)])) := mq_s e_2
  refine lv_aload_n hx hb dJx4a65c_clear_da8c8_10 rfl (lv_at hl 0 rfl) ?_
  refine mq_get (ci := 4) (v := .ref el) (C := RJx4a65c) (T := TJx4a65c) (N := 3) hx hb hts nJx4a65c hown hK hM h_3 rfl 1 (by decide) w2 (fun _ h9 => h9) rfl dJx4a65c_clear_da8c8_11 ?_
  refine lv_astore_n (lv' := [(1, .ref el), (0, .ref x)]) hx hb dJx4a65c_clear_da8c8_14 rfl hl (by decide) rfl (fun ls hl => ?_)
  refine lv_aload_n hx hb dJx4a65c_clear_da8c8_15 rfl (lv_at hl 1 rfl) ?_
  refine mq_get (ci := 4) (v := .int (nI n)) (C := RJx4a65c) (T := TJx4a65c) (N := 3) hx hb hts nJx4a65c hown hK hM h_3 rfl 2 (by decide) w3 (fun _ h9 => h9) rfl dJx4a65c_clear_da8c8_16 ?_
  refine lv_istore_n (lv' := [(2, .int (nI n)), (1, .ref el), (0, .ref x)]) hx hb dJx4a65c_clear_da8c8_19 rfl hl (by decide) rfl (fun ls hl => ?_)
  refine lv_aload_n hx hb dJx4a65c_clear_da8c8_20 rfl (lv_at hl 2 rfl) ?_
  refine lv_iconst (v := 0) hx hb dJx4a65c_clear_da8c8_21 (by decide) ?_
  refine lv_dup_x1 hx hb dJx4a65c_clear_da8c8_22 rfl rfl ?_
  refine mq_put (ci := 4) (v := .int 0) (ty := .int) (C := RJx4a65c) (T := TJx4a65c) (N := 3) (fs' := [.int (mo + 1), .ref el, .int 0]) hx hb hts nJx4a65c tyJx4a65c tyJx4a65c_ok nmJx4a65c hown hK hM hS h_3 rfl 2 (by decide) w3 (fun _ h9 => h9) rfl (by decide +kernel) rfl rfl (Nat.le_of_ble_eq_true rfl) dJx4a65c_clear_da8c8_23 rfl (fun f_4 H locs e_5 hM hS => ?_)
  have h_6 : f_4 x = some (.inr (4, [.int (mo + 1), .ref el, .int 0])) := mq_s e_5
  refine lv_istore_n (lv' := [(3, .int 0), (2, .int (nI n)), (1, .ref el), (0, .ref x)]) hx hb dJx4a65c_clear_da8c8_26 rfl hl (by decide) rfl (fun ls hl => ?_)
  have K27 : ∀ (n9 : Nat) (j9 : Nat), (n - j9) < n9 → (j9 ≤ n) → ∀ (f9 : mq_F), f9 x = some (.inr (4, [.int (mo + 1), .ref el, .int (nI 0)])) → (k ≠ 0 → f9 d = some (cRf (G.2 8) k (fun i => if i < j9 then none else rf_of n (fun i => gg i) i))) → (∀ y, y ≠ x → (k ≠ 0 → y ≠ d) → f9 y = f y) → ∀ (H : Heap) (locs : List Loc), mq_W G.1 A f9 H → va_S A s.heap H locs → ∀ (ls : Array Slot), lv_has ls 4 [(0, .ref x), (1, .ref el), (2, .int (nI n)), (3, .int (nI j9))] → W p l e (headSpec wsJx4a65c_clear_da8c8 ({ frames := 0, cells := 0, slots := 0, locals := 0 } : Room)).room s m ([.ref x] : List Value).toArray below meth c H locs 0 0 (MQ below (mq_Qv G A (fun g => g x = some (cLs (mo + 1) el 0) ∧ (k ≠ 0 → g d = some (cRf (G.2 8) k (rf_of 0 (fun i => gg i)))) ∧ ∀ y, y ≠ x → (k ≠ 0 → y ≠ d) → g y = f y)) ([.ref x] : List Value).toArray s 0 0 A) (F0 m 27 ls []) := by
    intro n9
    induction n9 with
    | zero => intro j9 hn9; exact absurd hn9 (Nat.not_lt_zero _)
    | succ n9 ih27 =>
      intro j9 hn9 hj9 f9 hx9 hd9 ho9 H locs hM hS ls hl
      refine lv_iload_n hx hb dJx4a65c_clear_da8c8_27 rfl (lv_at hl 3 rfl) ?_
      refine lv_iload_n hx hb dJx4a65c_clear_da8c8_28 rfl (lv_at hl 2 rfl) ?_
      refine lv_icmp_ge (tgt := 42) hx hb dJx4a65c_clear_da8c8_29 (by decide) (fun c_29 => ?_) (fun c_29 => ?_)
      · replace c_29 : nI n ≤ nI j9 := c_29
        rw [nI_leI (by omega) (by omega)] at c_29
        exact mq_vret hx hb hr hlocks hM hS (⟨hx9, fun q => by rw [hd9 q]; congr; funext i; exact clr_end (by omega), ho9⟩) dJx4a65c_clear_da8c8_42
      · replace c_29 : ¬ nI n ≤ nI j9 := c_29
        rw [nI_leI (by omega) (by omega)] at c_29
        have hk1 : k ≠ 0 := by omega
        have hd2 := hd9 hk1
        rw [← hel hk1] at hd2
        refine lv_aload_n hx hb dJx4a65c_clear_da8c8_32 rfl (lv_at hl 1 rfl) ?_
        refine lv_iload_n hx hb dJx4a65c_clear_da8c8_33 rfl (lv_at hl 3 rfl) ?_
        refine lv_null hx hb dJx4a65c_clear_da8c8_34 ?_
        refine mq_astN hx hb hK hM hS hd2 (vp_in_nI (by omega) (by omega)) dJx4a65c_clear_da8c8_35 (fun f_7 H locs e_8 hM hS => ?_)
        rw [show (nI j9 : Int32).toNatClampNeg = j9 from nI_clamp (by omega)] at e_8
        rw [show (va_up (fun i => if i < j9 then none else rf_of n (fun i => gg i) i) j9 none) = (fun i => if i < j9 + 1 then none else rf_of n (fun i => gg i) i) from clr_fn] at e_8
        have h_9 : f_7 x = some (.inr (4, [.int (mo + 1), .ref el, .int (nI 0)])) := mq_n e_8 hx9 (mq_neA hx9 hd2)
        have h_10 : f_7 el = some (.inl (G.2 8, k, .inr (.inr (.inr (.inr (fun i => if i < j9 + 1 then none else rf_of n (fun i => gg i) i)))))) := mq_s e_8
        refine lv_iinc (v := nI (j9 + 1)) (lv' := [(3, .int (nI (j9 + 1))), (0, .ref x), (1, .ref el), (2, .int (nI n))]) hx hb dJx4a65c_clear_da8c8_36 hl (k := 3) rfl (nI_add _ _) (by decide) rfl (fun ls hl => ?_)
        refine lv_goto (tgt := 27) hx hb dJx4a65c_clear_da8c8_39 (by decide) ?_
        exact ih27 (j9 + 1) (by omega) (by omega) _ h_9 (fun _ => by rw [← hel hk1]; exact h_10) (fun y h h8 => by rw [e_8, mq_up_n (by rw [hel hk1]; exact h8 hk1)]; exact ho9 y h h8) _ _ hM hS _ (lv_sub hl [1, 2, 3, 0] rfl)
  exact K27 _ 0 (Nat.lt_succ_self _) (Nat.zero_le _) _ h_6 (fun q => by rw [mq_n e_5 (mq_n e_2 (hd q) (mq_neB (hd q) hp1)) (mq_neB (hd q) hp1)]; congr) (fun y h _ => by rw [e_5, mq_up_n h, e_2, mq_up_n h]) _ _ hM hS _ (lv_sub hl [3, 2, 1, 0] rfl)

set_option maxHeartbeats 4000000 in
set_option maxRecDepth 100000 in
theorem c_Jx35411_init_45d68 (l : Launch) (G : mq_G) (A : Nat → Prop) (f : mq_F) (q x : Nat) (mo : Int32) (d n : Nat) : Met l yJx35411_init_45d68 wsJx35411_init_45d68 ({ frames := 1, cells := 0, slots := 0, locals := 24 } : Room) (mq_Pc G A f (f q = some (.inr (3, [.int 0, .int 0, .int 0, .null])) ∧ f x = some (cLs mo d n)) [.ref q, .ref x]) (mq_Qv G A (fun g => g = mq_up f q (.inr (3, [.int 0, .int (-1), .int mo, .ref x])))) 0 0 A := by
  refine Met.ofW (cc := cJx35411_init_45d68) (maxL := 2) (ret := none) (by decide) rfl ?_
  intro p e s m args below meth c s₁ B hml hv
  obtain ⟨rfl, ⟨hK, hZ, hM, hA⟩, hp⟩ := hv
  have hx := B.exec
  have hb := B.bytes
  have hr := B.returns
  have hts := atoms_spec (ws := wsJx35411_init_45d68) B.pre
  have hown : s.vm.findClass RJx35411 = some m.cls := findClass_of_methodNamed B.named
  have hlocks := B.notSynchronized
  have hin : meth.name = "<init>" := (name_of_methodNamed B.named B.method).1
  have hS : va_S A s.heap s.heap [] := va_S.rf
  have hl := lv_entry ([.ref q, .ref x]) (n := 2) (Nat.le_of_ble_eq_true rfl)
  rw [lg_entry_eq]
  generalize (lg_sl ([.ref q, .ref x]) ++ List.replicate (2 - (lg_sl ([.ref q, .ref x])).length) Slot.unset).toArray = ls at hl ⊢
  have hl : lv_has ls 2 [(0, .ref q), (1, .ref x)] := hl
  have w0 := hts (.fieldLink RJx35411 1 "java/util/ArrayList$Itr" "this$0" "Ljava/util/ArrayList;") (List.mem_of_getElem? (i := 1) rfl)
  have w1 := hts (.methodLink RJx35411 7 objectInit) (List.mem_of_getElem? (i := 2) rfl)
  have w2 := hts (.instanceMethod objectInit) (List.mem_of_getElem? (i := 3) rfl)
  have w3 := hts (.code objectInit ⟨#[0xb1]⟩ 1 none) (List.mem_of_getElem? (i := 4) rfl)
  have w4 := hts (.fieldLink RJx35411 13 "java/util/ArrayList$Itr" "lastRet" "I") (List.mem_of_getElem? (i := 5) rfl)
  have w5 := hts (.fieldLink RJx35411 17 "java/util/ArrayList" "modCount" "I") (List.mem_of_getElem? (i := 6) rfl)
  have w6 := hts (.sameField "java/util/ArrayList" "java/util/AbstractList" "modCount" "I") (List.mem_of_getElem? (i := 7) rfl)
  have w7 := hts (.fieldLink RJx35411 22 "java/util/ArrayList$Itr" "expectedModCount" "I") (List.mem_of_getElem? (i := 8) rfl)
  have nJx35411 : ∀ w ∈ wsJx354110, w ∈ wsJx35411_init_45d68 := fun _ h => List.mem_cons_of_mem _ (List.mem_append_left _ (List.mem_append_right _ h))
  have nJx4a65c : ∀ w ∈ wsJx4a65c0, w ∈ wsJx35411_init_45d68 := fun _ h => List.mem_cons_of_mem _ (List.mem_append_right _ h)
  obtain ⟨hp1, hp2⟩ := hp
  refine lv_aload_n hx hb dJx35411_init_45d68_0 rfl (lv_at hl 0 rfl) ?_
  refine lv_aload_n hx hb dJx35411_init_45d68_1 rfl (lv_at hl 1 rfl) ?_
  refine mq_putF (ci := 3) (v := .ref x) (ty := .object "java/util/ArrayList") (C := RJx35411) (T := TJx35411) (N := 4) (fs' := [.int 0, .int 0, .int 0, .ref x]) hx hb hts nJx35411 tyJx35411 tyJx35411_ok nmJx35411 hown hK hM hS hp1 rfl 3 (by decide) w0 (fun _ h9 => h9) rfl hin rfl (by decide +kernel) rfl rfl (Nat.le_of_ble_eq_true rfl) dJx35411_init_45d68_2 rfl (fun f_1 H locs e_2 hM hS => ?_)
  have h_3 : f_1 x = some (.inr (4, [.int mo, .ref d, .int (nI n)])) := mq_n e_2 hp2 (mq_neO hp2 hp1 (by decide))
  have h_4 : f_1 q = some (.inr (3, [.int 0, .int 0, .int 0, .ref x])) := mq_s e_2
  refine lv_aload_n hx hb dJx35411_init_45d68_5 rfl (lv_at hl 0 rfl) ?_
  refine W.objInit hx hb hown w1 w2 w3 rfl (by rw [hml]; exact hl.1) rfl dJx35411_init_45d68_6 (Nat.le_of_ble_eq_true rfl) (Nat.le_of_ble_eq_true rfl) ?_
  refine W.eq (g2 := F0 m 9 ls []) rfl ?_
  refine lv_aload_n hx hb dJx35411_init_45d68_9 rfl (lv_at hl 0 rfl) ?_
  refine lv_iconst (v := (-1)) hx hb dJx35411_init_45d68_10 (by decide) ?_
  refine mq_put (ci := 3) (v := .int (-1)) (ty := .int) (C := RJx35411) (T := TJx35411) (N := 4) (fs' := [.int 0, .int (-1), .int 0, .ref x]) hx hb hts nJx35411 tyJx35411 tyJx35411_ok nmJx35411 hown hK hM hS h_4 rfl 1 (by decide) w4 (fun _ h9 => h9) rfl (by decide +kernel) rfl rfl (Nat.le_of_ble_eq_true rfl) dJx35411_init_45d68_11 rfl (fun f_5 H locs e_6 hM hS => ?_)
  have h_7 : f_5 x = some (.inr (4, [.int mo, .ref d, .int (nI n)])) := mq_n e_6 h_3 (mq_neO h_3 h_4 (by decide))
  have h_8 : f_5 q = some (.inr (3, [.int 0, .int (-1), .int 0, .ref x])) := mq_s e_6
  refine lv_aload_n hx hb dJx35411_init_45d68_14 rfl (lv_at hl 0 rfl) ?_
  refine lv_aload_n hx hb dJx35411_init_45d68_15 rfl (lv_at hl 0 rfl) ?_
  refine mq_get (ci := 3) (v := .ref x) (C := RJx35411) (T := TJx35411) (N := 4) hx hb hts nJx35411 hown hK hM h_8 rfl 3 (by decide) w0 (fun _ h9 => h9) rfl dJx35411_init_45d68_16 ?_
  refine mq_get (ci := 4) (v := .int mo) (C := RJx4a65c) (T := TJx4a65c) (N := 3) hx hb hts nJx4a65c hown hK hM h_7 rfl 0 (by decide) w5 (fun x9 h9 => u_same w6 x9 h9) rfl dJx35411_init_45d68_19 ?_
  refine mq_put (ci := 3) (v := .int mo) (ty := .int) (C := RJx35411) (T := TJx35411) (N := 4) (fs' := [.int 0, .int (-1), .int mo, .ref x]) hx hb hts nJx35411 tyJx35411 tyJx35411_ok nmJx35411 hown hK hM hS h_8 rfl 2 (by decide) w7 (fun _ h9 => h9) rfl (by decide +kernel) rfl rfl (Nat.le_of_ble_eq_true rfl) dJx35411_init_45d68_22 rfl (fun f_9 H locs e_10 hM hS => ?_)
  have h_11 : f_9 x = some (.inr (4, [.int mo, .ref d, .int (nI n)])) := mq_n e_10 h_7 (mq_neO h_7 h_8 (by decide))
  have h_12 : f_9 q = some (.inr (3, [.int 0, .int (-1), .int mo, .ref x])) := mq_s e_10
  exact mq_vret hx hb hr hlocks hM hS (by rw [e_10, e_6, e_2]; (try simp only [mq_uu]); (try rfl)) dJx35411_init_45d68_25

set_option maxHeartbeats 4000000 in
set_option maxRecDepth 100000 in
theorem c_Jx4a65c_iterator_32c93 (l : Launch) (G : mq_G) (A : Nat → Prop) (f : mq_F) (x : Nat) (mo : Int32) (d n : Nat) : Met l yJx4a65c_iterator_32c93 wsJx4a65c_iterator_32c93 ({ frames := 2, cells := 1, slots := 4, locals := 45 } : Room) (mq_Pc G A f (f x = some (cLs mo d n)) [.ref x]) (mq_Qq G A (fun r g => ∃ q, r = some q ∧ f q = none ∧ g = mq_up f q (.inr (3, [.int 0, .int (-1), .int mo, .ref x])))) 1 4 A := by
  refine Met.ofW (cc := cJx4a65c_iterator_32c93) (maxL := 1) (ret := (some (.object "java/util/Iterator"))) (by decide) rfl ?_
  intro p e s m args below meth c s₁ B hml hv
  obtain ⟨rfl, ⟨hK, hZ, hM, hA⟩, hp⟩ := hv
  have hx := B.exec
  have hb := B.bytes
  have hr := B.returns
  have hts := atoms_spec (ws := wsJx4a65c_iterator_32c93) B.pre
  have hown : s.vm.findClass RJx4a65c = some m.cls := findClass_of_methodNamed B.named
  have hlocks := B.notSynchronized
  have hS : va_S A s.heap s.heap [] := va_S.rf
  have hl := lv_entry ([.ref x]) (n := 1) (Nat.le_of_ble_eq_true rfl)
  rw [lg_entry_eq]
  generalize (lg_sl ([.ref x]) ++ List.replicate (1 - (lg_sl ([.ref x])).length) Slot.unset).toArray = ls at hl ⊢
  have hl : lv_has ls 1 [(0, .ref x)] := hl
  have w0 := hts (.classLink RJx4a65c 267 RJx35411) (List.mem_of_getElem? (i := 1) rfl)
  have w1 := hts (.instantiable RJx35411 4) (List.mem_of_getElem? (i := 2) rfl)
  have w2 := hts (.initialized RJx35411) (List.mem_of_getElem? (i := 3) rfl)
  have w3 := hts (.methodLink RJx4a65c 269 yJx35411_init_45d68) (List.mem_of_getElem? (i := 4) rfl)
  have w4 := hts (.instanceMethod yJx35411_init_45d68) (List.mem_of_getElem? (i := 5) rfl)
  have nJx35411 : ∀ w ∈ wsJx354110, w ∈ wsJx4a65c_iterator_32c93 := fun _ h => List.mem_cons_of_mem _ (List.mem_append_left _ (List.mem_append_right _ h))
  refine mq_new (ci := 3) (fs := [.int 0, .int 0, .int 0, .null]) (C := RJx35411) (T := TJx35411) (N := 4) hx hb hts nJx35411 tyJx35411 tyJx35411_ok hown w0 w1 w2 hK hM hS hA rfl (fun j hj => by rcases (show j = 0 ∨ j = 1 ∨ j = 2 ∨ j = 3 by omega) with rfl | rfl | rfl | rfl <;> rfl) (Nat.le_of_ble_eq_true rfl) (Nat.le_of_ble_eq_true rfl) dJx4a65c_iterator_32c93_0 (fun q0 f_1 H hq0 e_2 hM hS => ?_)
  refine W.widen (k := 1) (n := 4) (Nat.le_of_ble_eq_true rfl) (Nat.le_of_ble_eq_true rfl) ?_
  have h_3 : f_1 x = some (.inr (4, [.int mo, .ref d, .int (nI n)])) := mq_n e_2 hp (mq_neN hp hq0)
  have h_4 : f_1 q0 = some (.inr (3, [.int 0, .int 0, .int 0, .null])) := mq_s e_2
  refine lv_dup hx hb dJx4a65c_iterator_32c93_3 rfl ?_
  refine lv_aload_n hx hb dJx4a65c_iterator_32c93_4 rfl (lv_at hl 0 rfl) ?_
  refine mq_callv (va_runI (As := [.ref x]) (rest := [.ref q0]) ⟨hx, hb, hml, hown, hts⟩ (c_Jx35411_init_45d68 l G A f_1 q0 x mo d n) (cwI 1 hts gJx4a65c_iterator_32c93_Jx35411_init_45d68 rfl rfl rfl w2 w3 w4 rfl (by decide +kernel) ⟨Nat.le_of_ble_eq_true rfl, Nat.le_of_ble_eq_true rfl⟩) (mq_preS hK hZ hS hA hM (⟨h_4, h_3⟩) _) rfl rfl hl.1 rfl (lv_room (Nat.le_of_ble_eq_true rfl)) dJx4a65c_iterator_32c93_5 ⟨Nat.le_of_ble_eq_true rfl, Nat.le_of_ble_eq_true rfl⟩) hS (fun g5 H locs p5 hM hS => ?_)
  refine W.widen (k := 1) (n := 4) (Nat.le_of_ble_eq_true rfl) (Nat.le_of_ble_eq_true rfl) ?_
  exact mq_aret (r := some q0) rfl hx hb hr (Or.inl ⟨_, rfl⟩) hlocks hM hS (⟨q0, rfl, hq0, by rw [p5, e_2, mq_uu]⟩) dJx4a65c_iterator_32c93_8

set_option maxHeartbeats 4000000 in
set_option maxRecDepth 100000 in
theorem c_Jx35411_hasNext_aae02 (l : Launch) (G : mq_G) (A : Nat → Prop) (f : mq_F) (q x : Nat) (cu : Nat) (lr mo : Int32) (d n : Nat) : Met l yJx35411_hasNext_aae02 wsJx35411_hasNext_aae02 ({ frames := 0, cells := 0, slots := 0, locals := 0 } : Room) (mq_Pc G A f (f q = some (.inr (3, [.int (nI cu), .int lr, .int mo, .ref x])) ∧ f x = some (cLs mo d n) ∧ cu ≤ 800 ∧ n ≤ 800) [.ref q]) (mq_Qi G A (fun r g => f = g ∧ r = zb (decide (cu ≠ n)))) 0 0 A := by
  refine Met.ofW (cc := cJx35411_hasNext_aae02) (maxL := 1) (ret := (some .boolean)) (by decide) rfl ?_
  intro p e s m args below meth c s₁ B hml hv
  obtain ⟨rfl, ⟨hK, hZ, hM, hA⟩, hp⟩ := hv
  have hx := B.exec
  have hb := B.bytes
  have hr := B.returns
  have hts := atoms_spec (ws := wsJx35411_hasNext_aae02) B.pre
  have hown : s.vm.findClass RJx35411 = some m.cls := findClass_of_methodNamed B.named
  have hlocks := B.notSynchronized
  have hS : va_S A s.heap s.heap [] := va_S.rf
  have hl := lv_entry ([.ref q]) (n := 1) (Nat.le_of_ble_eq_true rfl)
  rw [lg_entry_eq]
  generalize (lg_sl ([.ref q]) ++ List.replicate (1 - (lg_sl ([.ref q])).length) Slot.unset).toArray = ls at hl ⊢
  have hl : lv_has ls 1 [(0, .ref q)] := hl
  have w0 := hts (.fieldLink RJx35411 25 "java/util/ArrayList$Itr" "cursor" "I") (List.mem_of_getElem? (i := 1) rfl)
  have w1 := hts (.fieldLink RJx35411 1 "java/util/ArrayList$Itr" "this$0" "Ljava/util/ArrayList;") (List.mem_of_getElem? (i := 2) rfl)
  have nJx35411 : ∀ w ∈ wsJx354110, w ∈ wsJx35411_hasNext_aae02 := fun _ h => List.mem_cons_of_mem _ (List.mem_append_left _ (List.mem_append_right _ h))
  have nJx4a65c : ∀ w ∈ wsJx4a65c0, w ∈ wsJx35411_hasNext_aae02 := fun _ h => List.mem_cons_of_mem _ (List.mem_append_right _ h)
  obtain ⟨hp1, hp2, h1, h2⟩ := hp
  refine lv_aload_n hx hb dJx35411_hasNext_aae02_0 rfl (lv_at hl 0 rfl) ?_
  refine mq_get (ci := 3) (v := .int (nI cu)) (C := RJx35411) (T := TJx35411) (N := 4) hx hb hts nJx35411 hown hK hM hp1 rfl 0 (by decide) w0 (fun _ h9 => h9) rfl dJx35411_hasNext_aae02_1 ?_
  refine lv_aload_n hx hb dJx35411_hasNext_aae02_4 rfl (lv_at hl 0 rfl) ?_
  refine mq_get (ci := 3) (v := .ref x) (C := RJx35411) (T := TJx35411) (N := 4) hx hb hts nJx35411 hown hK hM hp1 rfl 3 (by decide) w1 (fun _ h9 => h9) rfl dJx35411_hasNext_aae02_5 ?_
  refine mq_getN (ci := 4) (v := .int (nI n)) (C := RJx4a65c) (T := TJx4a65c) (N := 3) hx hb hts nJx4a65c hown hK hM hp2 rfl 2 (by decide) (va_Nw.use rfl (mq_nestF hZ (own := RJx35411) (k := 28) (ref := "java/util/ArrayList") (n := "size") (d := "I") (host := "java/util/ArrayList") (by decide))) (fun _ h9 => h9) rfl dJx35411_hasNext_aae02_8 ?_
  refine lv_icmp_eq (tgt := 18) hx hb dJx35411_hasNext_aae02_11 (by decide) (fun c_11 => ?_) (fun c_11 => ?_)
  · replace c_11 : nI cu = nI n := c_11
    rw [nI_eq (by omega) (by omega)] at c_11
    refine lv_iconst (v := 0) hx hb dJx35411_hasNext_aae02_18 (by decide) ?_
    exact mq_zret (v := 0) hx hb hr (rfl) hlocks hM hS (⟨rfl, by rw [decide_eq_false (fun h9 => h9 c_11)]; rfl⟩) dJx35411_hasNext_aae02_19
  · replace c_11 : ¬ nI cu = nI n := c_11
    rw [nI_eq (by omega) (by omega)] at c_11
    refine lv_iconst (v := 1) hx hb dJx35411_hasNext_aae02_14 (by decide) ?_
    refine lv_goto (tgt := 19) hx hb dJx35411_hasNext_aae02_15 (by decide) ?_
    exact mq_zret (v := 1) hx hb hr (rfl) hlocks hM hS (⟨rfl, by rw [decide_eq_true c_11]; rfl⟩) dJx35411_hasNext_aae02_19

set_option maxHeartbeats 4000000 in
set_option maxRecDepth 100000 in
theorem c_Jx35411_checkForComodification_da8c8 (l : Launch) (G : mq_G) (A : Nat → Prop) (f : mq_F) (q x : Nat) (cu lr mo : Int32) (d n : Nat) : Met l yJx35411_checkForComodification_da8c8 wsJx35411_checkForComodification_da8c8 ({ frames := 7, cells := 0, slots := 0, locals := 120 } : Room) (mq_Pc G A f (f q = some (.inr (3, [.int cu, .int lr, .int mo, .ref x])) ∧ f x = some (cLs mo d n)) [.ref q]) (mq_Qv G A (fun g => f = g)) 0 0 A := by
  refine Met.ofW (cc := cJx35411_checkForComodification_da8c8) (maxL := 1) (ret := none) (by decide) rfl ?_
  intro p e s m args below meth c s₁ B hml hv
  obtain ⟨rfl, ⟨hK, hZ, hM, hA⟩, hp⟩ := hv
  have hx := B.exec
  have hb := B.bytes
  have hr := B.returns
  have hts := atoms_spec (ws := wsJx35411_checkForComodification_da8c8) B.pre
  have hown : s.vm.findClass RJx35411 = some m.cls := findClass_of_methodNamed B.named
  have hlocks := B.notSynchronized
  have hS : va_S A s.heap s.heap [] := va_S.rf
  have hl := lv_entry ([.ref q]) (n := 1) (Nat.le_of_ble_eq_true rfl)
  rw [lg_entry_eq]
  generalize (lg_sl ([.ref q]) ++ List.replicate (1 - (lg_sl ([.ref q])).length) Slot.unset).toArray = ls at hl ⊢
  have hl : lv_has ls 1 [(0, .ref q)] := hl
  have w0 := hts (.fieldLink RJx35411 1 "java/util/ArrayList$Itr" "this$0" "Ljava/util/ArrayList;") (List.mem_of_getElem? (i := 1) rfl)
  have w1 := hts (.fieldLink RJx35411 17 "java/util/ArrayList" "modCount" "I") (List.mem_of_getElem? (i := 2) rfl)
  have w2 := hts (.sameField "java/util/ArrayList" "java/util/AbstractList" "modCount" "I") (List.mem_of_getElem? (i := 3) rfl)
  have w3 := hts (.fieldLink RJx35411 22 "java/util/ArrayList$Itr" "expectedModCount" "I") (List.mem_of_getElem? (i := 4) rfl)
  have nJx35411 : ∀ w ∈ wsJx354110, w ∈ wsJx35411_checkForComodification_da8c8 := fun _ h => List.mem_cons_of_mem _ (List.mem_append_left _ (List.mem_append_right _ h))
  have nJx4a65c : ∀ w ∈ wsJx4a65c0, w ∈ wsJx35411_checkForComodification_da8c8 := fun _ h => List.mem_cons_of_mem _ (List.mem_append_right _ h)
  obtain ⟨hp1, hp2⟩ := hp
  refine lv_aload_n hx hb dJx35411_checkForComodification_da8c8_0 rfl (lv_at hl 0 rfl) ?_
  refine mq_get (ci := 3) (v := .ref x) (C := RJx35411) (T := TJx35411) (N := 4) hx hb hts nJx35411 hown hK hM hp1 rfl 3 (by decide) w0 (fun _ h9 => h9) rfl dJx35411_checkForComodification_da8c8_1 ?_
  refine mq_get (ci := 4) (v := .int mo) (C := RJx4a65c) (T := TJx4a65c) (N := 3) hx hb hts nJx4a65c hown hK hM hp2 rfl 0 (by decide) w1 (fun x9 h9 => u_same w2 x9 h9) rfl dJx35411_checkForComodification_da8c8_4 ?_
  refine lv_aload_n hx hb dJx35411_checkForComodification_da8c8_7 rfl (lv_at hl 0 rfl) ?_
  refine mq_get (ci := 3) (v := .int mo) (C := RJx35411) (T := TJx35411) (N := 4) hx hb hts nJx35411 hown hK hM hp1 rfl 2 (by decide) w3 (fun _ h9 => h9) rfl dJx35411_checkForComodification_da8c8_8 ?_
  refine lv_icmp_eq (tgt := 22) hx hb dJx35411_checkForComodification_da8c8_11 (by decide) (fun c_11 => ?_) (fun c_11 => absurd c_11 (fun h9 => h9 rfl))
  exact mq_vret hx hb hr hlocks hM hS (rfl) dJx35411_checkForComodification_da8c8_22

set_option maxHeartbeats 4000000 in
set_option maxRecDepth 100000 in
theorem c_Jx35411_next_0502b (l : Launch) (G : mq_G) (A : Nat → Prop) (f : mq_F) (q x : Nat) (cu : Nat) (lr mo : Int32) (d k n : Nat) (gg : Nat → Nat) : Met l yJx35411_next_0502b wsJx35411_next_0502b ({ frames := 8, cells := 0, slots := 0, locals := 140 } : Room) (mq_Pc G A f (f q = some (.inr (3, [.int (nI cu), .int lr, .int mo, .ref x])) ∧ f x = some (cLs mo d n) ∧ f d = some (cRf (G.2 8) k (rf_of n (fun i => gg i))) ∧ cu < n ∧ n ≤ k ∧ k ≤ 800) [.ref q]) (mq_Qq G A (fun r g => g = mq_up f q (.inr (3, [.int (nI (cu + 1)), .int (nI cu), .int mo, .ref x])) ∧ r = some (gg cu))) 0 0 A := by
  refine Met.ofW (cc := cJx35411_next_0502b) (maxL := 3) (ret := (some (.object "java/lang/Object"))) (by decide) rfl ?_
  intro p e s m args below meth c s₁ B hml hv
  obtain ⟨rfl, ⟨hK, hZ, hM, hA⟩, hp⟩ := hv
  have hx := B.exec
  have hb := B.bytes
  have hr := B.returns
  have hts := atoms_spec (ws := wsJx35411_next_0502b) B.pre
  have hown : s.vm.findClass RJx35411 = some m.cls := findClass_of_methodNamed B.named
  have hlocks := B.notSynchronized
  have hS : va_S A s.heap s.heap [] := va_S.rf
  have hl := lv_entry ([.ref q]) (n := 3) (Nat.le_of_ble_eq_true rfl)
  rw [lg_entry_eq]
  generalize (lg_sl ([.ref q]) ++ List.replicate (3 - (lg_sl ([.ref q])).length) Slot.unset).toArray = ls at hl ⊢
  have hl : lv_has ls 3 [(0, .ref q)] := hl
  have w0 := hts (.fieldLink RJx35411 25 "java/util/ArrayList$Itr" "cursor" "I") (List.mem_of_getElem? (i := 1) rfl)
  have w1 := hts (.fieldLink RJx35411 1 "java/util/ArrayList$Itr" "this$0" "Ljava/util/ArrayList;") (List.mem_of_getElem? (i := 2) rfl)
  have w2 := hts (.fieldLink RJx35411 37 "java/util/ArrayList" "elementData" "[Ljava/lang/Object;") (List.mem_of_getElem? (i := 3) rfl)
  have w3 := hts (.fieldLink RJx35411 13 "java/util/ArrayList$Itr" "lastRet" "I") (List.mem_of_getElem? (i := 4) rfl)
  have nJx35411 : ∀ w ∈ wsJx354110, w ∈ wsJx35411_next_0502b := fun _ h => List.mem_cons_of_mem _ (List.mem_append_left _ (List.mem_append_right _ h))
  have nJx4a65c : ∀ w ∈ wsJx4a65c0, w ∈ wsJx35411_next_0502b := fun _ h => List.mem_cons_of_mem _ (List.mem_append_right _ h)
  obtain ⟨hp1, hp2, hp3, h1, h2, h3⟩ := hp
  refine lv_aload_n hx hb dJx35411_next_0502b_0 rfl (lv_at hl 0 rfl) ?_
  refine mq_callv (va_runV (As := []) (rest := []) ⟨hx, hb, hml, hown, hts⟩ (c_Jx35411_checkForComodification_da8c8 l G A f q x (nI cu) lr mo d n) (cwV 0 hts gJx35411_next_0502b_Jx35411_checkForComodification_da8c8 rfl rfl rfl (by decide +kernel) ⟨Nat.le_of_ble_eq_true rfl, Nat.le_of_ble_eq_true rfl⟩) (mq_preV hK hZ hS hA hM (q := (RJx35411, TJx35411, 4)) hp1 rfl (⟨hp1, hp2⟩) _) rfl rfl hl.1 rfl (lv_room (Nat.le_of_ble_eq_true rfl)) dJx35411_next_0502b_1 ⟨Nat.le_of_ble_eq_true rfl, Nat.le_of_ble_eq_true rfl⟩) hS (fun g1 H locs p1 hM hS => ?_)
  refine W.widen (k := 0) (n := 0) (Nat.le_of_ble_eq_true rfl) (Nat.le_of_ble_eq_true rfl) ?_
  obtain rfl := p1
  refine lv_aload_n hx hb dJx35411_next_0502b_4 rfl (lv_at hl 0 rfl) ?_
  refine mq_get (ci := 3) (v := .int (nI cu)) (C := RJx35411) (T := TJx35411) (N := 4) hx hb hts nJx35411 hown hK hM hp1 rfl 0 (by decide) w0 (fun _ h9 => h9) rfl dJx35411_next_0502b_5 ?_
  refine lv_istore_n (lv' := [(1, .int (nI cu)), (0, .ref q)]) hx hb dJx35411_next_0502b_8 rfl hl (by decide) rfl (fun ls hl => ?_)
  refine lv_iload_n hx hb dJx35411_next_0502b_9 rfl (lv_at hl 0 rfl) ?_
  refine lv_aload_n hx hb dJx35411_next_0502b_10 rfl (lv_at hl 1 rfl) ?_
  refine mq_get (ci := 3) (v := .ref x) (C := RJx35411) (T := TJx35411) (N := 4) hx hb hts nJx35411 hown hK hM hp1 rfl 3 (by decide) w1 (fun _ h9 => h9) rfl dJx35411_next_0502b_11 ?_
  refine mq_getN (ci := 4) (v := .int (nI n)) (C := RJx4a65c) (T := TJx4a65c) (N := 3) hx hb hts nJx4a65c hown hK hM hp2 rfl 2 (by decide) (va_Nw.use rfl (mq_nestF hZ (own := RJx35411) (k := 28) (ref := "java/util/ArrayList") (n := "size") (d := "I") (host := "java/util/ArrayList") (by decide))) (fun _ h9 => h9) rfl dJx35411_next_0502b_14 ?_
  refine lv_icmp_lt (tgt := 28) hx hb dJx35411_next_0502b_17 (by decide) (fun c_17 => ?_) (fun c_17 => absurd c_17 (fun h9 => h9 (nI_lt h1 (by omega))))
  refine lv_aload_n hx hb dJx35411_next_0502b_28 rfl (lv_at hl 1 rfl) ?_
  refine mq_get (ci := 3) (v := .ref x) (C := RJx35411) (T := TJx35411) (N := 4) hx hb hts nJx35411 hown hK hM hp1 rfl 3 (by decide) w1 (fun _ h9 => h9) rfl dJx35411_next_0502b_29 ?_
  refine mq_get (ci := 4) (v := .ref d) (C := RJx4a65c) (T := TJx4a65c) (N := 3) hx hb hts nJx4a65c hown hK hM hp2 rfl 1 (by decide) w2 (fun _ h9 => h9) rfl dJx35411_next_0502b_32 ?_
  refine lv_astore_n (lv' := [(2, .ref d), (1, .int (nI cu)), (0, .ref q)]) hx hb dJx35411_next_0502b_35 rfl hl (by decide) rfl (fun ls hl => ?_)
  refine lv_iload_n hx hb dJx35411_next_0502b_36 rfl (lv_at hl 1 rfl) ?_
  refine lv_aload_n hx hb dJx35411_next_0502b_37 rfl (lv_at hl 0 rfl) ?_
  refine mq_alen (t0 := 8) (v := nI k) hx hb hK hM rfl hp3 rfl dJx35411_next_0502b_38 ?_
  refine lv_icmp_lt (tgt := 50) hx hb dJx35411_next_0502b_39 (by decide) (fun c_39 => ?_) (fun c_39 => absurd c_39 (fun h9 => h9 (nI_lt (by omega) (by omega))))
  refine lv_aload_n hx hb dJx35411_next_0502b_50 rfl (lv_at hl 2 rfl) ?_
  refine lv_iload_n hx hb dJx35411_next_0502b_51 rfl (lv_at hl 1 rfl) ?_
  refine lv_iconst (v := 1) hx hb dJx35411_next_0502b_52 (by decide) ?_
  refine lv_iadd hx hb dJx35411_next_0502b_53 ?_
  rw [show (nI cu) + 1 = nI (cu + 1) from nI_add _ _]
  refine mq_put (ci := 3) (v := .int (nI (cu + 1))) (ty := .int) (C := RJx35411) (T := TJx35411) (N := 4) (fs' := [.int (nI (cu + 1)), .int lr, .int mo, .ref x]) hx hb hts nJx35411 tyJx35411 tyJx35411_ok nmJx35411 hown hK hM hS hp1 rfl 0 (by decide) w0 (fun _ h9 => h9) rfl (by decide +kernel) rfl rfl (Nat.le_of_ble_eq_true rfl) dJx35411_next_0502b_54 rfl (fun f_1 H locs e_2 hM hS => ?_)
  have h_3 : f_1 x = some (.inr (4, [.int mo, .ref d, .int (nI n)])) := mq_n e_2 hp2 (mq_neO hp2 hp1 (by decide))
  have h_4 : f_1 d = some (.inl (G.2 8, k, .inr (.inr (.inr (.inr (rf_of n (fun i => gg i))))))) := mq_n e_2 hp3 (mq_neB hp3 hp1)
  have h_5 : f_1 q = some (.inr (3, [.int (nI (cu + 1)), .int lr, .int mo, .ref x])) := mq_s e_2
  refine lv_aload_n hx hb dJx35411_next_0502b_57 rfl (lv_at hl 0 rfl) ?_
  refine lv_aload_n hx hb dJx35411_next_0502b_58 rfl (lv_at hl 2 rfl) ?_
  refine lv_iload_n hx hb dJx35411_next_0502b_59 rfl (lv_at hl 1 rfl) ?_
  refine lv_dup_x1 hx hb dJx35411_next_0502b_60 rfl rfl ?_
  refine mq_put (ci := 3) (v := .int (nI cu)) (ty := .int) (C := RJx35411) (T := TJx35411) (N := 4) (fs' := [.int (nI (cu + 1)), .int (nI cu), .int mo, .ref x]) hx hb hts nJx35411 tyJx35411 tyJx35411_ok nmJx35411 hown hK hM hS h_5 rfl 1 (by decide) w3 (fun _ h9 => h9) rfl (by decide +kernel) rfl rfl (Nat.le_of_ble_eq_true rfl) dJx35411_next_0502b_61 rfl (fun f_6 H locs e_7 hM hS => ?_)
  have h_8 : f_6 x = some (.inr (4, [.int mo, .ref d, .int (nI n)])) := mq_n e_7 h_3 (mq_neO h_3 h_5 (by decide))
  have h_9 : f_6 d = some (.inl (G.2 8, k, .inr (.inr (.inr (.inr (rf_of n (fun i => gg i))))))) := mq_n e_7 h_4 (mq_neB h_4 h_5)
  have h_10 : f_6 q = some (.inr (3, [.int (nI (cu + 1)), .int (nI cu), .int mo, .ref x])) := mq_s e_7
  refine mq_aald (t0 := 8) (v := .ref (gg cu)) hx hb hK hM rfl h_9 (vp_in_nI (by omega) (by omega)) (by rw [show (nI cu : Int32).toNatClampNeg = cu from nI_clamp (by omega)]; exact congrArg va_rf (rf_at (by omega))) dJx35411_next_0502b_64 ?_
  exact mq_aret (r := some (gg cu)) rfl hx hb hr (Or.inl ⟨_, rfl⟩) hlocks hM hS (⟨by rw [e_7, e_2, mq_uu], rfl⟩) dJx35411_next_0502b_65

theorem vc_nI {i : Nat} (h : i < 128) : vb_c (i + 128) = nI i := co_dec (P := fun i => vb_c (i + 128) = nI i) (N := 128) (by decide +kernel) h

set_option maxHeartbeats 4000000 in
set_option maxRecDepth 100000 in
theorem c_J14_valueOf_4531c (l : Launch) (G : mq_G) (A : Nat → Prop) (f : mq_F) (bo : Bool) : Met l yJ14_valueOf_4531c wsJ14_valueOf_4531c ({ frames := 0, cells := 0, slots := 0, locals := 0 } : Room) (mq_Pc G A f (True) [.int (zb bo)]) (mq_Qq G A (fun r g => f = g ∧ r = some (sB G bo))) 0 0 A := by
  refine Met.ofW (cc := cJ14_valueOf_4531c) (maxL := 1) (ret := (some (.object "java/lang/Boolean"))) (by decide) rfl ?_
  intro p e s m args below meth c s₁ B hml hv
  obtain ⟨rfl, ⟨hK, hZ, hM, hA⟩, hp⟩ := hv
  have hx := B.exec
  have hb := B.bytes
  have hr := B.returns
  have hts := atoms_spec (ws := wsJ14_valueOf_4531c) B.pre
  have hown : s.vm.findClass RJ14 = some m.cls := findClass_of_methodNamed B.named
  have hlocks := B.notSynchronized
  have hS : va_S A s.heap s.heap [] := va_S.rf
  have hl := lv_entry ([.int (zb bo)]) (n := 1) (Nat.le_of_ble_eq_true rfl)
  rw [lg_entry_eq]
  generalize (lg_sl ([.int (zb bo)]) ++ List.replicate (1 - (lg_sl ([.int (zb bo)])).length) Slot.unset).toArray = ls at hl ⊢
  have hl : lv_has ls 1 [(0, .int (zb bo))] := hl
  have w0 := hts (.fieldLink RJ14 31 "java/lang/Boolean" "FALSE" "Ljava/lang/Boolean;") (List.mem_of_getElem? (i := 2) rfl)
  have w1 := hts (.fieldLink RJ14 27 "java/lang/Boolean" "TRUE" "Ljava/lang/Boolean;") (List.mem_of_getElem? (i := 1) rfl)
  refine lv_iload_n hx hb dJ14_valueOf_4531c_0 rfl (lv_at hl 0 rfl) ?_
  refine lv_if_eq (tgt := 10) hx hb dJ14_valueOf_4531c_1 (by decide) (fun c_1 => ?_) (fun c_1 => ?_)
  · rw [zb_0] at c_1
    subst c_1
    refine va_gets hx hb (hZ.2.2.1 false).1 hS hown w0 (fun _ h9 => h9) dJ14_valueOf_4531c_10 ?_
    exact mq_aret (r := some (sB G false)) rfl hx hb hr (Or.inl ⟨_, rfl⟩) hlocks hM hS (⟨rfl, rfl⟩) dJ14_valueOf_4531c_13
  · rw [zb_n0] at c_1
    subst c_1
    refine va_gets hx hb (hZ.2.2.1 true).1 hS hown w1 (fun _ h9 => h9) dJ14_valueOf_4531c_4 ?_
    refine lv_goto (tgt := 13) hx hb dJ14_valueOf_4531c_7 (by decide) ?_
    exact mq_aret (r := some (sB G true)) rfl hx hb hr (Or.inl ⟨_, rfl⟩) hlocks hM hS (⟨rfl, rfl⟩) dJ14_valueOf_4531c_13

set_option maxHeartbeats 4000000 in
set_option maxRecDepth 100000 in
theorem c_J14_booleanValue_aae02 (l : Launch) (G : mq_G) (A : Nat → Prop) (f : mq_F) (bo : Bool) : Met l yJ14_booleanValue_aae02 wsJ14_booleanValue_aae02 ({ frames := 0, cells := 0, slots := 0, locals := 0 } : Room) (mq_Pc G A f (True) [.ref (sB G bo)]) (mq_Qi G A (fun r g => f = g ∧ r = zb bo)) 0 0 A := by
  refine Met.ofW (cc := cJ14_booleanValue_aae02) (maxL := 1) (ret := (some .boolean)) (by decide) rfl ?_
  intro p e s m args below meth c s₁ B hml hv
  obtain ⟨rfl, ⟨hK, hZ, hM, hA⟩, hp⟩ := hv
  have hx := B.exec
  have hb := B.bytes
  have hr := B.returns
  have hts := atoms_spec (ws := wsJ14_booleanValue_aae02) B.pre
  have hown : s.vm.findClass RJ14 = some m.cls := findClass_of_methodNamed B.named
  have hlocks := B.notSynchronized
  have hS : va_S A s.heap s.heap [] := va_S.rf
  have hl := lv_entry ([.ref (sB G bo)]) (n := 1) (Nat.le_of_ble_eq_true rfl)
  rw [lg_entry_eq]
  generalize (lg_sl ([.ref (sB G bo)]) ++ List.replicate (1 - (lg_sl ([.ref (sB G bo)])).length) Slot.unset).toArray = ls at hl ⊢
  have hl : lv_has ls 1 [(0, .ref (sB G bo))] := hl
  have w0 := hts (.fieldLink RJ14 7 "java/lang/Boolean" "value" "Z") (List.mem_of_getElem? (i := 1) rfl)
  refine lv_aload_n hx hb dJ14_booleanValue_aae02_0 rfl (lv_at hl 0 rfl) ?_
  refine vk_getf hx hb (hZ.2.2.1 bo).2.2 hS hown w0 (fun _ h9 => h9) dJ14_booleanValue_aae02_1 ?_
  rw [show mq_bz bo = zb bo from rfl]
  exact mq_zret (v := zb bo) hx hb hr (zb_nar _) hlocks hM hS (⟨rfl, rfl⟩) dJ14_booleanValue_aae02_4

set_option maxHeartbeats 4000000 in
set_option maxRecDepth 100000 in
theorem c_J6_valueOf_2dffe (l : Launch) (G : mq_G) (A : Nat → Prop) (f : mq_F) (i : Nat) : Met l yJ6_valueOf_2dffe wsJ6_valueOf_2dffe ({ frames := 0, cells := 0, slots := 0, locals := 0 } : Room) (mq_Pc G A f (i < 128) [.int (nI i)]) (mq_Qq G A (fun r g => f = g ∧ r = some (sI G (i + 128)))) 0 0 A := by
  refine Met.ofW (cc := cJ6_valueOf_2dffe) (maxL := 1) (ret := (some (.object "java/lang/Integer"))) (by decide) rfl ?_
  intro p e s m args below meth c s₁ B hml hv
  obtain ⟨rfl, ⟨hK, hZ, hM, hA⟩, hp⟩ := hv
  have hx := B.exec
  have hb := B.bytes
  have hr := B.returns
  have hts := atoms_spec (ws := wsJ6_valueOf_2dffe) B.pre
  have hown : s.vm.findClass RJ6 = some m.cls := findClass_of_methodNamed B.named
  have hlocks := B.notSynchronized
  have hS : va_S A s.heap s.heap [] := va_S.rf
  have hl := lv_entry ([.int (nI i)]) (n := 1) (Nat.le_of_ble_eq_true rfl)
  rw [lg_entry_eq]
  generalize (lg_sl ([.int (nI i)]) ++ List.replicate (1 - (lg_sl ([.int (nI i)])).length) Slot.unset).toArray = ls at hl ⊢
  have hl : lv_has ls 1 [(0, .int (nI i))] := hl
  have w0 := hts (.fieldLink RJ6 191 "java/lang/Integer$IntegerCache" "high" "I") (List.mem_of_getElem? (i := 1) rfl)
  have w1 := hts (.fieldLink RJ6 195 "java/lang/Integer$IntegerCache" "cache" "[Ljava/lang/Integer;") (List.mem_of_getElem? (i := 2) rfl)
  refine lv_iload_n hx hb dJ6_valueOf_2dffe_0 rfl (lv_at hl 0 rfl) ?_
  refine lv_bipush (v := (-128)) hx hb dJ6_valueOf_2dffe_1 (by decide) ?_
  refine lv_icmp_lt (tgt := 23) hx hb dJ6_valueOf_2dffe_3 (by decide) (fun c_3 => absurd c_3 (fun h9 => by have := Int32.lt_iff_toInt_lt.mp h9; rw [nI_toInt (by omega)] at this; revert this; show ¬ ((i : Int) < -128); omega)) (fun c_3 => ?_)
  refine lv_iload_n hx hb dJ6_valueOf_2dffe_6 rfl (lv_at hl 0 rfl) ?_
  refine va_gets hx hb hZ.2.2.2.2.1 hS hown w0 (fun _ h9 => h9) dJ6_valueOf_2dffe_7 ?_
  refine lv_icmp_gt (tgt := 23) hx hb dJ6_valueOf_2dffe_10 (by decide) (fun c_10 => absurd c_10 (fun h9 => absurd ((nI_ltI (a := 127) (b := i) (by decide) (by omega)).mp h9) (by omega))) (fun c_10 => ?_)
  refine va_gets hx hb hZ.2.2.2.2.2.1 hS hown w1 (fun _ h9 => h9) dJ6_valueOf_2dffe_13 ?_
  refine lv_iload_n hx hb dJ6_valueOf_2dffe_16 rfl (lv_at hl 0 rfl) ?_
  refine lv_sipush (v := 128) hx hb dJ6_valueOf_2dffe_17 (by decide) ?_
  refine lv_iadd hx hb dJ6_valueOf_2dffe_20 ?_
  rw [show (nI i) + 128 = nI (i + 128) from nI_add _ _]
  refine vb_tq hx hb hZ.2.2.2.2.2.2.1 hS (vp_in_nI (by omega) (by omega)) (v := .ref (sI G (i + 128))) (by rw [nI_clamp (by omega)]) dJ6_valueOf_2dffe_21 ?_
  exact mq_aret (r := some (sI G (i + 128))) rfl hx hb hr (Or.inl ⟨_, rfl⟩) hlocks hM hS (⟨rfl, rfl⟩) dJ6_valueOf_2dffe_22

set_option maxHeartbeats 4000000 in
set_option maxRecDepth 100000 in
theorem c_J6_intValue_8abf5 (l : Launch) (G : mq_G) (A : Nat → Prop) (f : mq_F) (i : Nat) : Met l yJ6_intValue_8abf5 wsJ6_intValue_8abf5 ({ frames := 0, cells := 0, slots := 0, locals := 0 } : Room) (mq_Pc G A f (i < 128) [.ref (sI G (i + 128))]) (mq_Qi G A (fun r g => f = g ∧ r = nI i)) 0 0 A := by
  refine Met.ofW (cc := cJ6_intValue_8abf5) (maxL := 1) (ret := (some .int)) (by decide) rfl ?_
  intro p e s m args below meth c s₁ B hml hv
  obtain ⟨rfl, ⟨hK, hZ, hM, hA⟩, hp⟩ := hv
  have hx := B.exec
  have hb := B.bytes
  have hr := B.returns
  have hts := atoms_spec (ws := wsJ6_intValue_8abf5) B.pre
  have hown : s.vm.findClass RJ6 = some m.cls := findClass_of_methodNamed B.named
  have hlocks := B.notSynchronized
  have hS : va_S A s.heap s.heap [] := va_S.rf
  have hl := lv_entry ([.ref (sI G (i + 128))]) (n := 1) (Nat.le_of_ble_eq_true rfl)
  rw [lg_entry_eq]
  generalize (lg_sl ([.ref (sI G (i + 128))]) ++ List.replicate (1 - (lg_sl ([.ref (sI G (i + 128))])).length) Slot.unset).toArray = ls at hl ⊢
  have hl : lv_has ls 1 [(0, .ref (sI G (i + 128)))] := hl
  have w0 := hts (.fieldLink RJ6 205 "java/lang/Integer" "value" "I") (List.mem_of_getElem? (i := 1) rfl)
  refine lv_aload_n hx hb dJ6_intValue_8abf5_0 rfl (lv_at hl 0 rfl) ?_
  refine vk_getf (v := .int (vb_c (i + 128))) hx hb (hZ.2.2.2.2.2.2.2.2 (i + 128) (by omega)) hS hown w0 (fun _ h9 => h9) dJ6_intValue_8abf5_1 ?_
  rw [show vb_c (i + 128) = nI i from vc_nI hp]
  exact mq_iret (v := nI i) hx hb hr hlocks hM hS (⟨rfl, rfl⟩) dJ6_intValue_8abf5_4
