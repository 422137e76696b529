/-! SKILLS AND MASTERIES -/
theorem nI_z {n : Nat} (h : n < 2 ^ 31) : nI n = 0 ↔ n = 0 := nI_eq (b := 0) h (by decide)
theorem ar_sub (n : Nat) {x : Nat} (h : x ≤ n) : nI n - nI x = nI (n - x) := pk_sub h
/-- how odds move, in whole numbers -/
def mv_k (sl p : Nat) (z : Bool) : Nat := p * (if z then 1000 - sl else sl)
def mv_u (gu p : Nat) (z : Bool) : Nat := (1000 - p) * (if z then gu else 1000 - gu)
def mv_t (gu sl p : Nat) (z : Bool) : Nat := if mv_k sl p z + mv_u gu p z = 0 then p else mv_k sl p z * 1000 / (mv_k sl p z + mv_u gu p z)
def mv (gu sl ga p : Nat) (z : Bool) : Nat := mv_t gu sl p z + (1000 - mv_t gu sl p z) * ga / 1000
theorem mv_k_le {sl p : Nat} {z : Bool} (hs : sl ≤ 500) (hp : p ≤ 1000) : mv_k sl p z ≤ 1000000 := by
  unfold mv_k
  have : (if z then 1000 - sl else sl) ≤ 1000 := by split <;> omega
  exact Nat.mul_le_mul hp this
theorem mv_u_le {gu p : Nat} {z : Bool} (hs : gu ≤ 500) : mv_u gu p z ≤ 1000000 := by
  unfold mv_u
  have : (if z then gu else 1000 - gu) ≤ 1000 := by split <;> omega
  exact Nat.mul_le_mul (show 1000 - p ≤ 1000 by omega) this
theorem mv_t_le {gu sl p : Nat} {z : Bool} (hp : p ≤ 1000) : mv_t gu sl p z ≤ 1000 := by
  unfold mv_t
  split
  · exact hp
  · refine Nat.div_le_of_le_mul ?_
    exact Nat.mul_le_mul_right 1000 (Nat.le_add_right _ _)
theorem mv_g_le {t ga : Nat} (hg : ga ≤ 500) : (1000 - t) * ga / 1000 ≤ 1000 - t := by
  refine Nat.div_le_of_le_mul ?_
  rw [Nat.mul_comm 1000]
  exact Nat.mul_le_mul_left _ (by omega)
theorem mv_le {gu sl ga p : Nat} {z : Bool} (hp : p ≤ 1000) (hg : ga ≤ 500) : mv gu sl ga p z ≤ 1000 := by
  unfold mv
  have h1 := mv_t_le (gu := gu) (sl := sl) (z := z) hp
  have h2 := mv_g_le (t := mv_t gu sl p z) hg
  omega
theorem mv_t0 {gu sl p : Nat} {z : Bool} (h : mv_k sl p z + mv_u gu p z = 0) : mv_t gu sl p z = p := if_pos h
theorem mv_t1 {gu sl p : Nat} {z : Bool} (h : ¬ mv_k sl p z + mv_u gu p z = 0) : mv_t gu sl p z = mv_k sl p z * 1000 / (mv_k sl p z + mv_u gu p z) := if_neg h
/-- a skill's cell: guess, slip, gain, and the needed ones as bits -/
abbrev cSk (gu sl ga m : Nat) : va_E := .inr (10, [.int (nI gu), .int (nI sl), .int (nI ga), .int (nI m)])
theorem nI_bit {m k : Nat} (hm : m < 2 ^ 31) (hk : k < 31) : (nI m >>> (nI k &&& 31)) &&& 1 = zb (m.testBit k) := by
  have h1 : nI m >>> (nI k &&& 31) = nI (m / 2 ^ k) := pk_shrN hm _ k (by
    rcases (show k = 0 ∨ k = 1 ∨ k = 2 ∨ k = 3 ∨ k = 4 ∨ k = 5 ∨ k = 6 ∨ k = 7 ∨ k = 8 ∨ k = 9 ∨ k = 10 ∨ k = 11 ∨ k = 12 ∨ k = 13 ∨ k = 14 ∨ k = 15 ∨ k = 16 ∨ k = 17 ∨ k = 18 ∨ k = 19 ∨ k = 20 ∨ k = 21 ∨ k = 22 ∨ k = 23 ∨ k = 24 ∨ k = 25 ∨ k = 26 ∨ k = 27 ∨ k = 28 ∨ k = 29 ∨ k = 30 by omega) with rfl | rfl | rfl | rfl | rfl | rfl | rfl | rfl | rfl | rfl | rfl | rfl | rfl | rfl | rfl | rfl | rfl | rfl | rfl | rfl | rfl | rfl | rfl | rfl | rfl | rfl | rfl | rfl | rfl | rfl | rfl <;> decide)
  have h2 : m / 2 ^ k < 2 ^ 31 := Nat.lt_of_le_of_lt (Nat.div_le_self _ _) hm
  rw [h1, pk_andN (by omega) 1 (by decide), Nat.testBit_eq_decide_div_mod_eq]
  have h3 : m / 2 ^ k % 2 ^ 1 = m / 2 ^ k % 2 := rfl
  rw [h3]
  rcases Nat.mod_two_eq_zero_or_one (m / 2 ^ k) with h | h <;> simp [h, zb, nI]

set_option maxHeartbeats 4000000 in
set_option maxRecDepth 100000 in
theorem c_X5_init (l : Launch) (G : mq_G) (A : Nat → Prop) (f : mq_F) (x : Nat) (gu sl ga : Nat) : Met l yX5_init wsX5_init ({ frames := 1, cells := 0, slots := 0, locals := 24 } : Room) (mq_Pc G A f (f x = some (cSk 0 0 0 0)) [.ref x, .int (nI gu), .int (nI sl), .int (nI ga)]) (mq_Qv G A (fun g => g = mq_up f x (cSk gu sl ga 0))) 0 0 A := by
  refine Met.ofW (cc := cX5_init) (maxL := 4) (ret := none) (by decide) rfl ?_
  intro p e s m args below meth c s₁ B hml hv
  obtain ⟨rfl, ⟨hK, hZ, hM, hA⟩, hp⟩ := hv
  have hx := B.exec
  have hb := B.bytes
  have hr := B.returns
  have hts := atoms_spec (ws := wsX5_init) B.pre
  have hown : s.vm.findClass RX5 = some m.cls := findClass_of_methodNamed B.named
  have hlocks := B.notSynchronized
  have hin : meth.name = "<init>" := (name_of_methodNamed B.named B.method).1
  have hS : va_S A s.heap s.heap [] := va_S.rf
  have hl := lv_entry ([.ref x, .int (nI gu), .int (nI sl), .int (nI ga)]) (n := 4) (Nat.le_of_ble_eq_true rfl)
  rw [lg_entry_eq]
  generalize (lg_sl ([.ref x, .int (nI gu), .int (nI sl), .int (nI ga)]) ++ List.replicate (4 - (lg_sl ([.ref x, .int (nI gu), .int (nI sl), .int (nI ga)])).length) Slot.unset).toArray = ls at hl ⊢
  have hl : lv_has ls 4 [(0, .ref x), (1, .int (nI gu)), (2, .int (nI sl)), (3, .int (nI ga))] := hl
  have w0 := hts (.methodLink RX5 3 objectInit) (List.mem_of_getElem? (i := 1) rfl)
  have w1 := hts (.instanceMethod objectInit) (List.mem_of_getElem? (i := 2) rfl)
  have w2 := hts (.code objectInit ⟨#[0xb1]⟩ 1 none) (List.mem_of_getElem? (i := 3) rfl)
  have w3 := hts (.fieldLink RX5 9 "Tutorlight$Skill" "guess" "I") (List.mem_of_getElem? (i := 4) rfl)
  have w4 := hts (.fieldLink RX5 15 "Tutorlight$Skill" "slip" "I") (List.mem_of_getElem? (i := 5) rfl)
  have w5 := hts (.fieldLink RX5 18 "Tutorlight$Skill" "gain" "I") (List.mem_of_getElem? (i := 6) rfl)
  have nX5 : ∀ w ∈ wsX50, w ∈ wsX5_init := fun _ h => List.mem_cons_of_mem _ (List.mem_append_right _ h)
  refine lv_aload_n hx hb dX5_init_0 rfl (lv_at hl 0 rfl) ?_
  refine W.objInit hx hb hown w0 w1 w2 rfl (by rw [hml]; exact hl.1) rfl dX5_init_1 (Nat.le_of_ble_eq_true rfl) (Nat.le_of_ble_eq_true rfl) ?_
  refine W.eq (g2 := F0 m 4 ls []) rfl ?_
  refine lv_aload_n hx hb dX5_init_4 rfl (lv_at hl 0 rfl) ?_
  refine lv_iload_n hx hb dX5_init_5 rfl (lv_at hl 1 rfl) ?_
  refine mq_putF (ci := 10) (v := .int (nI gu)) (ty := .int) (C := RX5) (T := TX5) (N := 4) (fs' := [.int (nI gu), .int (nI 0), .int (nI 0), .int (nI 0)]) hx hb hts nX5 tyX5 tyX5_ok nmX5 hown hK hM hS hp rfl 0 (by decide) w3 (fun _ h9 => h9) rfl hin rfl (by decide +kernel) rfl rfl (Nat.le_of_ble_eq_true rfl) dX5_init_6 rfl (fun f_1 H locs e_2 hM hS => ?_)
  have h_3 : f_1 x = some (.inr (10, [.int (nI gu), .int (nI 0), .int (nI 0), .int (nI 0)])) := mq_s e_2
  refine lv_aload_n hx hb dX5_init_9 rfl (lv_at hl 0 rfl) ?_
  refine lv_iload_n hx hb dX5_init_10 rfl (lv_at hl 2 rfl) ?_
  refine mq_putF (ci := 10) (v := .int (nI sl)) (ty := .int) (C := RX5) (T := TX5) (N := 4) (fs' := [.int (nI gu), .int (nI sl), .int (nI 0), .int (nI 0)]) hx hb hts nX5 tyX5 tyX5_ok nmX5 hown hK hM hS h_3 rfl 1 (by decide) w4 (fun _ h9 => h9) rfl hin rfl (by decide +kernel) rfl rfl (Nat.le_of_ble_eq_true rfl) dX5_init_11 rfl (fun f_4 H locs e_5 hM hS => ?_)
  have h_6 : f_4 x = some (.inr (10, [.int (nI gu), .int (nI sl), .int (nI 0), .int (nI 0)])) := mq_s e_5
  refine lv_aload_n hx hb dX5_init_14 rfl (lv_at hl 0 rfl) ?_
  refine lv_iload_n hx hb dX5_init_15 rfl (lv_at hl 3 rfl) ?_
  refine mq_putF (ci := 10) (v := .int (nI ga)) (ty := .int) (C := RX5) (T := TX5) (N := 4) (fs' := [.int (nI gu), .int (nI sl), .int (nI ga), .int (nI 0)]) hx hb hts nX5 tyX5 tyX5_ok nmX5 hown hK hM hS h_6 rfl 2 (by decide) w5 (fun _ h9 => h9) rfl hin rfl (by decide +kernel) rfl rfl (Nat.le_of_ble_eq_true rfl) dX5_init_16 rfl (fun f_7 H locs e_8 hM hS => ?_)
  have h_9 : f_7 x = some (.inr (10, [.int (nI gu), .int (nI sl), .int (nI ga), .int (nI 0)])) := mq_s e_8
  exact mq_vret hx hb hr hlocks hM hS (by rw [e_8, e_5, e_2]; (try simp only [mq_uu]); (try rfl)) dX5_init_19

set_option maxHeartbeats 4000000 in
set_option maxRecDepth 100000 in
theorem c_X5_needs (l : Launch) (G : mq_G) (A : Nat → Prop) (f : mq_F) (x gu sl ga mm k : Nat) : Met l yX5_needs wsX5_needs ({ frames := 0, cells := 0, slots := 0, locals := 0 } : Room) (mq_Pc G A f (f x = some (cSk gu sl ga mm) ∧ mm < 2 ^ 31 ∧ k < 31) [.ref x, .int (nI k)]) (mq_Qi G A (fun r g => f = g ∧ r = zb (mm.testBit k))) 0 0 A := by
  refine Met.ofW (cc := cX5_needs) (maxL := 2) (ret := (some .boolean)) (by decide) rfl ?_
  intro p e s m args below meth c s₁ B hml hv
  obtain ⟨rfl, ⟨hK, hZ, hM, hA⟩, hp⟩ := hv
  have hx := B.exec
  have hb := B.bytes
  have hr := B.returns
  have hts := atoms_spec (ws := wsX5_needs) B.pre
  have hown : s.vm.findClass RX5 = some m.cls := findClass_of_methodNamed B.named
  have hlocks := B.notSynchronized
  have hS : va_S A s.heap s.heap [] := va_S.rf
  have hl := lv_entry ([.ref x, .int (nI k)]) (n := 2) (Nat.le_of_ble_eq_true rfl)
  rw [lg_entry_eq]
  generalize (lg_sl ([.ref x, .int (nI k)]) ++ List.replicate (2 - (lg_sl ([.ref x, .int (nI k)])).length) Slot.unset).toArray = ls at hl ⊢
  have hl : lv_has ls 2 [(0, .ref x), (1, .int (nI k))] := hl
  have w0 := hts (.fieldLink RX5 21 "Tutorlight$Skill" "neededSkills" "I") (List.mem_of_getElem? (i := 1) rfl)
  have nX5 : ∀ w ∈ wsX50, w ∈ wsX5_needs := fun _ h => List.mem_cons_of_mem _ (List.mem_append_right _ h)
  obtain ⟨h0, hm, hk⟩ := hp
  refine lv_aload_n hx hb dX5_needs_0 rfl (lv_at hl 0 rfl) ?_
  refine mq_get (ci := 10) (v := .int (nI mm)) (C := RX5) (T := TX5) (N := 4) hx hb hts nX5 hown hK hM h0 rfl 3 (by decide) w0 (fun _ h9 => h9) rfl dX5_needs_1 ?_
  refine lv_iload_n hx hb dX5_needs_4 rfl (lv_at hl 1 rfl) ?_
  refine lv_ishr hx hb dX5_needs_5 ?_
  refine lv_iconst (v := 1) hx hb dX5_needs_6 (by decide) ?_
  refine lv_iand hx hb dX5_needs_7 ?_
  rw [show ((nI mm) >>> ((nI k) &&& 31)) &&& 1 = zb (mm.testBit k) from nI_bit hm hk]
  refine lv_if_eq (tgt := 15) hx hb dX5_needs_8 (by decide) (fun c_8 => ?_) (fun c_8 => ?_)
  · rw [zb_0] at c_8
    refine lv_iconst (v := 0) hx hb dX5_needs_15 (by decide) ?_
    exact mq_zret (v := 0) hx hb hr (rfl) hlocks hM hS (⟨rfl, by rw [c_8]; rfl⟩) dX5_needs_16
  · rw [zb_n0] at c_8
    refine lv_iconst (v := 1) hx hb dX5_needs_11 (by decide) ?_
    refine lv_goto (tgt := 16) hx hb dX5_needs_12 (by decide) ?_
    exact mq_zret (v := 1) hx hb hr (rfl) hlocks hM hS (⟨rfl, by rw [c_8]; rfl⟩) dX5_needs_16

set_option maxHeartbeats 4000000 in
set_option maxRecDepth 100000 in
theorem c_X5_oddsAfter (l : Launch) (G : mq_G) (A : Nat → Prop) (f : mq_F) (x gu sl ga mm pp : Nat) (z : Bool) : Met l yX5_oddsAfter wsX5_oddsAfter ({ frames := 0, cells := 0, slots := 0, locals := 0 } : Room) (mq_Pc G A f (f x = some (cSk gu sl ga mm) ∧ gu ≤ 500 ∧ sl ≤ 500 ∧ ga ≤ 500 ∧ pp ≤ 1000) [.ref x, .int (nI pp), .int (zb z)]) (mq_Qi G A (fun r g => f = g ∧ r = nI (mv gu sl ga pp z))) 0 0 A := by
  refine Met.ofW (cc := cX5_oddsAfter) (maxL := 7) (ret := (some .int)) (by decide) rfl ?_
  intro p e s m args below meth c s₁ B hml hv
  obtain ⟨rfl, ⟨hK, hZ, hM, hA⟩, hp⟩ := hv
  have hx := B.exec
  have hb := B.bytes
  have hr := B.returns
  have hts := atoms_spec (ws := wsX5_oddsAfter) B.pre
  have hown : s.vm.findClass RX5 = some m.cls := findClass_of_methodNamed B.named
  have hlocks := B.notSynchronized
  have hS : va_S A s.heap s.heap [] := va_S.rf
  have hl := lv_entry ([.ref x, .int (nI pp), .int (zb z)]) (n := 7) (Nat.le_of_ble_eq_true rfl)
  rw [lg_entry_eq]
  generalize (lg_sl ([.ref x, .int (nI pp), .int (zb z)]) ++ List.replicate (7 - (lg_sl ([.ref x, .int (nI pp), .int (zb z)])).length) Slot.unset).toArray = ls at hl ⊢
  have hl : lv_has ls 7 [(0, .ref x), (1, .int (nI pp)), (2, .int (zb z))] := hl
  have w0 := hts (.fieldLink RX5 18 "Tutorlight$Skill" "gain" "I") (List.mem_of_getElem? (i := 3) rfl)
  have w1 := hts (.fieldLink RX5 9 "Tutorlight$Skill" "guess" "I") (List.mem_of_getElem? (i := 2) rfl)
  have w2 := hts (.fieldLink RX5 15 "Tutorlight$Skill" "slip" "I") (List.mem_of_getElem? (i := 1) rfl)
  have nX5 : ∀ w ∈ wsX50, w ∈ wsX5_oddsAfter := fun _ h => List.mem_cons_of_mem _ (List.mem_append_left _ (List.mem_append_right _ h))
  obtain ⟨h0, hg, hs, hga, hpp⟩ := hp
  have bk := mv_k_le (z := z) hs hpp
  have bu := mv_u_le (p := pp) (z := z) hg
  have bt := mv_t_le (gu := gu) (sl := sl) (z := z) hpp
  have K73 : ∀ (t : Nat), (t = mv_t gu sl pp z) → ∀ (H : Heap) (locs : List Loc), mq_W G.1 A f H → va_S A s.heap H locs → ∀ (ls : Array Slot), lv_has ls 7 [(0, .ref x), (6, .int (nI t))] → W p l e (headSpec wsX5_oddsAfter ({ frames := 0, cells := 0, slots := 0, locals := 0 } : Room)).room s m ([.ref x, .int (nI pp), .int (zb z)] : List Value).toArray below meth c H locs 0 0 (MQ below (mq_Qi G A (fun r g => f = g ∧ r = nI (mv gu sl ga pp z))) ([.ref x, .int (nI pp), .int (zb z)] : List Value).toArray s 0 0 A) (F0 m 73 ls []) := by
    intro t ht H locs hM hS ls hl
    refine lv_iload hx hb dX5_oddsAfter_73 (lv_at hl 1 rfl) ?_
    refine lv_sipush (v := 1000) hx hb dX5_oddsAfter_75 (by decide) ?_
    refine lv_iload hx hb dX5_oddsAfter_78 (lv_at hl 1 rfl) ?_
    refine lv_isub hx hb dX5_oddsAfter_80 ?_
    rw [show 1000 - (nI t) = nI (1000 - t) from ar_sub 1000 (by omega)]
    refine lv_aload_n hx hb dX5_oddsAfter_81 rfl (lv_at hl 0 rfl) ?_
    refine mq_get (ci := 10) (v := .int (nI ga)) (C := RX5) (T := TX5) (N := 4) hx hb hts nX5 hown hK hM h0 rfl 2 (by decide) w0 (fun _ h9 => h9) rfl dX5_oddsAfter_82 ?_
    refine lv_imul hx hb dX5_oddsAfter_85 ?_
    rw [show (nI (1000 - t)) * (nI ga) = nI ((1000 - t) * ga) from pk_mul _ _]
    refine lv_sipush (v := 1000) hx hb dX5_oddsAfter_86 (by decide) ?_
    refine lv_idiv hx hb dX5_oddsAfter_89 (by decide) ?_
    rw [show (nI ((1000 - t) * ga)) / 1000 = nI ((1000 - t) * ga / 1000) from pk_div (d := 1000) (by have := Nat.mul_le_mul (show 1000 - t ≤ 1000 by omega) hga; omega) (by decide) (by decide)]
    refine lv_iadd hx hb dX5_oddsAfter_90 ?_
    rw [show (nI t) + (nI ((1000 - t) * ga / 1000)) = nI (t + (1000 - t) * ga / 1000) from nI_add _ _]
    exact mq_iret (v := nI (t + (1000 - t) * ga / 1000)) hx hb hr hlocks hM hS (⟨rfl, by rw [ht]; rfl⟩) dX5_oddsAfter_91
  have K22 : ∀ (H : Heap) (locs : List Loc), mq_W G.1 A f H → va_S A s.heap H locs → ∀ (ls : Array Slot), lv_has ls 7 [(0, .ref x), (1, .int (nI pp)), (2, .int (zb z)), (3, .int (nI (mv_k sl pp z)))] → W p l e (headSpec wsX5_oddsAfter ({ frames := 0, cells := 0, slots := 0, locals := 0 } : Room)).room s m ([.ref x, .int (nI pp), .int (zb z)] : List Value).toArray below meth c H locs 0 0 (MQ below (mq_Qi G A (fun r g => f = g ∧ r = nI (mv gu sl ga pp z))) ([.ref x, .int (nI pp), .int (zb z)] : List Value).toArray s 0 0 A) (F0 m 22 ls []) := by
    intro H locs hM hS ls hl
    have K47 : ∀ (H : Heap) (locs : List Loc), mq_W G.1 A f H → va_S A s.heap H locs → ∀ (ls : Array Slot), lv_has ls 7 [(0, .ref x), (1, .int (nI pp)), (3, .int (nI (mv_k sl pp z)))] → W p l e (headSpec wsX5_oddsAfter ({ frames := 0, cells := 0, slots := 0, locals := 0 } : Room)).room s m ([.ref x, .int (nI pp), .int (zb z)] : List Value).toArray below meth c H locs 0 0 (MQ below (mq_Qi G A (fun r g => f = g ∧ r = nI (mv gu sl ga pp z))) ([.ref x, .int (nI pp), .int (zb z)] : List Value).toArray s 0 0 A) (F0 m 47 ls [.int (nI (mv_u gu pp z))]) := by
      intro H locs hM hS ls hl
      refine lv_istore (lv' := [(4, .int (nI (mv_u gu pp z))), (0, .ref x), (1, .int (nI pp)), (3, .int (nI (mv_k sl pp z)))]) hx hb dX5_oddsAfter_47 hl (by decide) rfl (fun ls hl => ?_)
      refine lv_iload_n hx hb dX5_oddsAfter_49 rfl (lv_at hl 3 rfl) ?_
      refine lv_iload hx hb dX5_oddsAfter_50 (lv_at hl 0 rfl) ?_
      refine lv_iadd hx hb dX5_oddsAfter_52 ?_
      rw [show (nI (mv_k sl pp z)) + (nI (mv_u gu pp z)) = nI (mv_k sl pp z + mv_u gu pp z) from nI_add _ _]
      refine lv_istore (lv' := [(5, .int (nI (mv_k sl pp z + mv_u gu pp z))), (4, .int (nI (mv_u gu pp z))), (0, .ref x), (1, .int (nI pp)), (3, .int (nI (mv_k sl pp z)))]) hx hb dX5_oddsAfter_53 hl (by decide) rfl (fun ls hl => ?_)
      refine lv_iload_n hx hb dX5_oddsAfter_55 rfl (lv_at hl 3 rfl) ?_
      refine lv_istore (lv' := [(6, .int (nI pp)), (5, .int (nI (mv_k sl pp z + mv_u gu pp z))), (4, .int (nI (mv_u gu pp z))), (0, .ref x), (1, .int (nI pp)), (3, .int (nI (mv_k sl pp z)))]) hx hb dX5_oddsAfter_56 hl (by decide) rfl (fun ls hl => ?_)
      refine lv_iload hx hb dX5_oddsAfter_58 (lv_at hl 1 rfl) ?_
      refine lv_if_eq (tgt := 73) hx hb dX5_oddsAfter_60 (by decide) (fun c_60 => ?_) (fun c_60 => ?_)
      · have c_60t := c_60
        exact K73 pp ((mv_t0 ((nI_z (by omega)).mp c_60)).symm) _ _ hM hS _ (lv_sub hl [3, 0] rfl)
      · refine lv_iload_n hx hb dX5_oddsAfter_63 rfl (lv_at hl 5 rfl) ?_
        refine lv_sipush (v := 1000) hx hb dX5_oddsAfter_64 (by decide) ?_
        refine lv_imul hx hb dX5_oddsAfter_67 ?_
        rw [show (nI (mv_k sl pp z)) * 1000 = nI (mv_k sl pp z * 1000) from pk_mul _ 1000]
        refine lv_iload hx hb dX5_oddsAfter_68 (lv_at hl 1 rfl) ?_
        refine lv_idiv hx hb dX5_oddsAfter_70 (c_60) ?_
        rw [show (nI (mv_k sl pp z * 1000)) / (nI (mv_k sl pp z + mv_u gu pp z)) = nI (mv_k sl pp z * 1000 / (mv_k sl pp z + mv_u gu pp z)) from pk_div (by omega) (Nat.pos_of_ne_zero (fun h => c_60 (by rw [h]; rfl))) (by omega)]
        refine lv_istore (lv' := [(6, .int (nI (mv_k sl pp z * 1000 / (mv_k sl pp z + mv_u gu pp z)))), (5, .int (nI (mv_k sl pp z + mv_u gu pp z))), (4, .int (nI (mv_u gu pp z))), (0, .ref x), (1, .int (nI pp)), (3, .int (nI (mv_k sl pp z)))]) hx hb dX5_oddsAfter_71 hl (by decide) rfl (fun ls hl => ?_)
        exact K73 _ ((mv_t1 (fun h => c_60 (by rw [h]; rfl))).symm) _ _ hM hS _ (lv_sub hl [3, 0] rfl)
    refine lv_sipush (v := 1000) hx hb dX5_oddsAfter_22 (by decide) ?_
    refine lv_iload_n hx hb dX5_oddsAfter_25 rfl (lv_at hl 1 rfl) ?_
    refine lv_isub hx hb dX5_oddsAfter_26 ?_
    rw [show 1000 - (nI pp) = nI (1000 - pp) from ar_sub 1000 (by omega)]
    refine lv_iload_n hx hb dX5_oddsAfter_27 rfl (lv_at hl 2 rfl) ?_
    refine lv_if_eq (tgt := 38) hx hb dX5_oddsAfter_28 (by decide) (fun c_28 => ?_) (fun c_28 => ?_)
    · rw [zb_0] at c_28
      subst c_28
      refine lv_sipush (v := 1000) hx hb dX5_oddsAfter_38 (by decide) ?_
      refine lv_aload_n hx hb dX5_oddsAfter_41 rfl (lv_at hl 0 rfl) ?_
      refine mq_get (ci := 10) (v := .int (nI gu)) (C := RX5) (T := TX5) (N := 4) hx hb hts nX5 hown hK hM h0 rfl 0 (by decide) w1 (fun _ h9 => h9) rfl dX5_oddsAfter_42 ?_
      refine lv_isub hx hb dX5_oddsAfter_45 ?_
      rw [show 1000 - (nI gu) = nI (1000 - gu) from ar_sub 1000 (by omega)]
      refine lv_imul hx hb dX5_oddsAfter_46 ?_
      rw [show (nI (1000 - pp)) * (nI (1000 - gu)) = nI (mv_u gu pp false) from pk_mul _ _]
      exact K47   _ _ hM hS _ (lv_sub hl [0, 1, 3] rfl)
    · rw [zb_n0] at c_28
      subst c_28
      refine lv_aload_n hx hb dX5_oddsAfter_31 rfl (lv_at hl 0 rfl) ?_
      refine mq_get (ci := 10) (v := .int (nI gu)) (C := RX5) (T := TX5) (N := 4) hx hb hts nX5 hown hK hM h0 rfl 0 (by decide) w1 (fun _ h9 => h9) rfl dX5_oddsAfter_32 ?_
      refine lv_goto (tgt := 46) hx hb dX5_oddsAfter_35 (by decide) ?_
      refine lv_imul hx hb dX5_oddsAfter_46 ?_
      rw [show (nI (1000 - pp)) * (nI gu) = nI (mv_u gu pp true) from pk_mul _ _]
      exact K47   _ _ hM hS _ (lv_sub hl [0, 1, 3] rfl)
  refine lv_iload_n hx hb dX5_oddsAfter_0 rfl (lv_at hl 1 rfl) ?_
  refine lv_iload_n hx hb dX5_oddsAfter_1 rfl (lv_at hl 2 rfl) ?_
  refine lv_if_eq (tgt := 16) hx hb dX5_oddsAfter_2 (by decide) (fun c_2 => ?_) (fun c_2 => ?_)
  · rw [zb_0] at c_2
    subst c_2
    refine lv_aload_n hx hb dX5_oddsAfter_16 rfl (lv_at hl 0 rfl) ?_
    refine mq_get (ci := 10) (v := .int (nI sl)) (C := RX5) (T := TX5) (N := 4) hx hb hts nX5 hown hK hM h0 rfl 1 (by decide) w2 (fun _ h9 => h9) rfl dX5_oddsAfter_17 ?_
    refine lv_imul hx hb dX5_oddsAfter_20 ?_
    rw [show (nI pp) * (nI sl) = nI (mv_k sl pp false) from pk_mul _ _]
    refine lv_istore_n (lv' := [(3, .int (nI (mv_k sl pp false))), (0, .ref x), (1, .int (nI pp)), (2, .int (zb false))]) hx hb dX5_oddsAfter_21 rfl hl (by decide) rfl (fun ls hl => ?_)
    exact K22   _ _ hM hS _ (lv_sub hl [1, 2, 3, 0] rfl)
  · rw [zb_n0] at c_2
    subst c_2
    refine lv_sipush (v := 1000) hx hb dX5_oddsAfter_5 (by decide) ?_
    refine lv_aload_n hx hb dX5_oddsAfter_8 rfl (lv_at hl 0 rfl) ?_
    refine mq_get (ci := 10) (v := .int (nI sl)) (C := RX5) (T := TX5) (N := 4) hx hb hts nX5 hown hK hM h0 rfl 1 (by decide) w2 (fun _ h9 => h9) rfl dX5_oddsAfter_9 ?_
    refine lv_isub hx hb dX5_oddsAfter_12 ?_
    rw [show 1000 - (nI sl) = nI (1000 - sl) from ar_sub 1000 (by omega)]
    refine lv_goto (tgt := 20) hx hb dX5_oddsAfter_13 (by decide) ?_
    refine lv_imul hx hb dX5_oddsAfter_20 ?_
    rw [show (nI pp) * (nI (1000 - sl)) = nI (mv_k sl pp true) from pk_mul _ _]
    refine lv_istore_n (lv' := [(3, .int (nI (mv_k sl pp true))), (0, .ref x), (1, .int (nI pp)), (2, .int (zb true))]) hx hb dX5_oddsAfter_21 rfl hl (by decide) rfl (fun ls hl => ?_)
    exact K22   _ _ hM hS _ (lv_sub hl [1, 2, 3, 0] rfl)

set_option maxHeartbeats 4000000 in
set_option maxRecDepth 100000 in
theorem c_X6_init (l : Launch) (G : mq_G) (A : Nat → Prop) (f : mq_F) (x y w : Nat) : Met l yX6_init wsX6_init ({ frames := 1, cells := 0, slots := 0, locals := 24 } : Room) (mq_Pc G A f (f x = some (.inr (11, [.null, .null]))) [.ref x, .ref y, .ref w]) (mq_Qv G A (fun g => g = mq_up f x (.inr (11, [.ref y, .ref w])))) 0 0 A := by
  refine Met.ofW (cc := cX6_init) (maxL := 3) (ret := none) (by decide) rfl ?_
  intro p e s m args below meth c s₁ B hml hv
  obtain ⟨rfl, ⟨hK, hZ, hM, hA⟩, hp⟩ := hv
  have hx := B.exec
  have hb := B.bytes
  have hr := B.returns
  have hts := atoms_spec (ws := wsX6_init) B.pre
  have hown : s.vm.findClass RX6 = some m.cls := findClass_of_methodNamed B.named
  have hlocks := B.notSynchronized
  have hin : meth.name = "<init>" := (name_of_methodNamed B.named B.method).1
  have hS : va_S A s.heap s.heap [] := va_S.rf
  have hl := lv_entry ([.ref x, .ref y, .ref w]) (n := 3) (Nat.le_of_ble_eq_true rfl)
  rw [lg_entry_eq]
  generalize (lg_sl ([.ref x, .ref y, .ref w]) ++ List.replicate (3 - (lg_sl ([.ref x, .ref y, .ref w])).length) Slot.unset).toArray = ls at hl ⊢
  have hl : lv_has ls 3 [(0, .ref x), (1, .ref y), (2, .ref w)] := hl
  have w0 := hts (.methodLink RX6 1 objectInit) (List.mem_of_getElem? (i := 1) rfl)
  have w1 := hts (.instanceMethod objectInit) (List.mem_of_getElem? (i := 2) rfl)
  have w2 := hts (.code objectInit ⟨#[0xb1]⟩ 1 none) (List.mem_of_getElem? (i := 3) rfl)
  have w3 := hts (.fieldLink RX6 7 "Tutorlight$WrongStep" "had" "LTutorlight$Equation;") (List.mem_of_getElem? (i := 4) rfl)
  have w4 := hts (.fieldLink RX6 13 "Tutorlight$WrongStep" "told" "LTutorlight$Equation;") (List.mem_of_getElem? (i := 5) rfl)
  have nX6 : ∀ w ∈ wsX60, w ∈ wsX6_init := fun _ h => List.mem_cons_of_mem _ (List.mem_append_right _ h)
  refine lv_aload_n hx hb dX6_init_0 rfl (lv_at hl 0 rfl) ?_
  refine W.objInit hx hb hown w0 w1 w2 rfl (by rw [hml]; exact hl.1) rfl dX6_init_1 (Nat.le_of_ble_eq_true rfl) (Nat.le_of_ble_eq_true rfl) ?_
  refine W.eq (g2 := F0 m 4 ls []) rfl ?_
  refine lv_aload_n hx hb dX6_init_4 rfl (lv_at hl 0 rfl) ?_
  refine lv_aload_n hx hb dX6_init_5 rfl (lv_at hl 1 rfl) ?_
  refine mq_putF (ci := 11) (v := .ref y) (ty := .object "Tutorlight$Equation") (C := RX6) (T := TX6) (N := 2) (fs' := [.ref y, .null]) hx hb hts nX6 tyX6 tyX6_ok nmX6 hown hK hM hS hp rfl 0 (by decide) w3 (fun _ h9 => h9) rfl hin rfl (by decide +kernel) rfl rfl (Nat.le_of_ble_eq_true rfl) dX6_init_6 rfl (fun f_1 H locs e_2 hM hS => ?_)
  have h_3 : f_1 x = some (.inr (11, [.ref y, .null])) := mq_s e_2
  refine lv_aload_n hx hb dX6_init_9 rfl (lv_at hl 0 rfl) ?_
  refine lv_aload_n hx hb dX6_init_10 rfl (lv_at hl 2 rfl) ?_
  refine mq_putF (ci := 11) (v := .ref w) (ty := .object "Tutorlight$Equation") (C := RX6) (T := TX6) (N := 2) (fs' := [.ref y, .ref w]) hx hb hts nX6 tyX6 tyX6_ok nmX6 hown hK hM hS h_3 rfl 1 (by decide) w4 (fun _ h9 => h9) rfl hin rfl (by decide +kernel) rfl rfl (Nat.le_of_ble_eq_true rfl) dX6_init_11 rfl (fun f_4 H locs e_5 hM hS => ?_)
  have h_6 : f_4 x = some (.inr (11, [.ref y, .ref w])) := mq_s e_5
  exact mq_vret hx hb hr hlocks hM hS (by rw [e_5, e_2]; (try simp only [mq_uu]); (try rfl)) dX6_init_14

set_option maxHeartbeats 4000000 in
set_option maxRecDepth 100000 in
theorem c_X1_isFaultless (l : Launch) (G : mq_G) (A : Nat → Prop) (f : mq_F) (x : Nat) (u1 u2 u4 u5 : Int32) (u3 : Nat) : Met l yX1_isFaultless wsX1_isFaultless ({ frames := 0, cells := 0, slots := 0, locals := 0 } : Room) (mq_Pc G A f (f x = some (.inr (6, [.int u1, .int u2, .ref u3, .int u4, .int u5]))) [.ref x]) (mq_Qi G A (fun r g => f = g ∧ r = zb (decide (u4 = 0 ∧ u5 = 0)))) 0 0 A := by
  refine Met.ofW (cc := cX1_isFaultless) (maxL := 1) (ret := (some .boolean)) (by decide) rfl ?_
  intro p e s m args below meth c s₁ B hml hv
  obtain ⟨rfl, ⟨hK, hZ, hM, hA⟩, hp⟩ := hv
  have hx := B.exec
  have hb := B.bytes
  have hr := B.returns
  have hts := atoms_spec (ws := wsX1_isFaultless) B.pre
  have hown : s.vm.findClass RX1 = some m.cls := findClass_of_methodNamed B.named
  have hlocks := B.notSynchronized
  have hS : va_S A s.heap s.heap [] := va_S.rf
  have hl := lv_entry ([.ref x]) (n := 1) (Nat.le_of_ble_eq_true rfl)
  rw [lg_entry_eq]
  generalize (lg_sl ([.ref x]) ++ List.replicate (1 - (lg_sl ([.ref x])).length) Slot.unset).toArray = ls at hl ⊢
  have hl : lv_has ls 1 [(0, .ref x)] := hl
  have w0 := hts (.fieldLink RX1 25 "Tutorlight$Exercise" "wrongSteps" "I") (List.mem_of_getElem? (i := 1) rfl)
  have w1 := hts (.fieldLink RX1 28 "Tutorlight$Exercise" "hints" "I") (List.mem_of_getElem? (i := 2) rfl)
  have nX1 : ∀ w ∈ wsX10, w ∈ wsX1_isFaultless := fun _ h => List.mem_cons_of_mem _ (List.mem_append_right _ h)
  refine lv_aload_n hx hb dX1_isFaultless_0 rfl (lv_at hl 0 rfl) ?_
  refine mq_get (ci := 6) (v := .int u4) (C := RX1) (T := TX1) (N := 5) hx hb hts nX1 hown hK hM hp rfl 3 (by decide) w0 (fun _ h9 => h9) rfl dX1_isFaultless_1 ?_
  refine lv_if_ne (tgt := 18) hx hb dX1_isFaultless_4 (by decide) (fun c_4 => ?_) (fun c_4 => ?_)
  · refine lv_iconst (v := 0) hx hb dX1_isFaultless_18 (by decide) ?_
    exact mq_zret (v := 0) hx hb hr (rfl) hlocks hM hS (⟨rfl, by simp [zb, c_4]⟩) dX1_isFaultless_19
  · refine lv_aload_n hx hb dX1_isFaultless_7 rfl (lv_at hl 0 rfl) ?_
    refine mq_get (ci := 6) (v := .int u5) (C := RX1) (T := TX1) (N := 5) hx hb hts nX1 hown hK hM hp rfl 4 (by decide) w1 (fun _ h9 => h9) rfl dX1_isFaultless_8 ?_
    refine lv_if_ne (tgt := 18) hx hb dX1_isFaultless_11 (by decide) (fun c_11 => ?_) (fun c_11 => ?_)
    · refine lv_iconst (v := 0) hx hb dX1_isFaultless_18 (by decide) ?_
      exact mq_zret (v := 0) hx hb hr (rfl) hlocks hM hS (⟨rfl, by simp [zb, c_4, c_11]⟩) dX1_isFaultless_19
    · refine lv_iconst (v := 1) hx hb dX1_isFaultless_14 (by decide) ?_
      refine lv_goto (tgt := 19) hx hb dX1_isFaultless_15 (by decide) ?_
      exact mq_zret (v := 1) hx hb hr (rfl) hlocks hM hS (⟨rfl, by simp [zb, c_4, c_11]⟩) dX1_isFaultless_19
