/-! THE CLASS: what it reads -/
theorem oMap_none {α : Type} {o : Option α} {q : Nat} (h : oMap o q = none) : o = none := by
  cases o with
  | none => rfl
  | some a => cases h
theorem oMap_some {α : Type} {o : Option α} {q a : Nat} (h : oMap o q = some a) : ∃ e, o = some e := by
  cases o with
  | none => cases h
  | some e => exact ⟨e, rfl⟩
section NUL
variable {p : Program} {l : Launch} {e : Env} {R : Room} {s : State} {m : MethodId} {args : Array Value} {below : List Frame} {meth : Method} {c : Code} {H : Heap} {locs : List Loc} {cells slots : Nat} {Q : State → Prop}
variable {cc : ByteArray} {pc tgt : Nat} {off : Int} {ls : Array Slot} {rest : List Value} {r : Option Nat}
theorem mq_ifnullq (hx : p.tables.exec = Jvm.exec) (hb : c.code = cc) (hdg : decode cc pc = .ok (.ifnull off, 3)) (ht : (pc : Int) + off = (tgt : Int)) (kn : r = none → W p l e R s m args below meth c H locs cells slots Q (F0 m tgt ls rest)) (ks : ∀ a, r = some a → W p l e R s m args below meth c H locs cells slots Q (F0 m (pc + 3) ls rest)) : W p l e R s m args below meth c H locs cells slots Q (F0 m pc ls (va_rf r :: rest)) := by
  cases r with
  | none => exact lv_ifnullN hx hb hdg ht (kn rfl)
  | some a => exact lv_ifnull hx hb hdg (ks a rfl)
theorem mq_ifnonnullq (hx : p.tables.exec = Jvm.exec) (hb : c.code = cc) (hdg : decode cc pc = .ok (.ifnonnull off, 3)) (ht : (pc : Int) + off = (tgt : Int)) (kn : r = none → W p l e R s m args below meth c H locs cells slots Q (F0 m (pc + 3) ls rest)) (ks : ∀ a, r = some a → W p l e R s m args below meth c H locs cells slots Q (F0 m tgt ls rest)) : W p l e R s m args below meth c H locs cells slots Q (F0 m pc ls (va_rf r :: rest)) := by
  cases r with
  | none => exact lv_ifnonnullN hx hb hdg (kn rfl)
  | some a => exact lv_ifnonnull hx hb hdg ht (ks a rfl)
end NUL
def allB (p : Nat → Bool) : Nat → Bool
  | 0 => true
  | i + 1 => allB p i && p i
theorem allB_false {p : Nat → Bool} {i n : Nat} (hi : i < n) (h : p i = false) : allB p n = false := by
  induction n with
  | zero => omega
  | succ n ih =>
    unfold allB
    by_cases hn : i = n
    · subst hn; rw [h, Bool.and_false]
    · rw [ih (by omega), Bool.false_and]
theorem allB_true {p : Nat → Bool} {n : Nat} : allB p n = true ↔ ∀ i, i < n → p i = true := by
  induction n with
  | zero => exact ⟨fun _ i hi => absurd hi (Nat.not_lt_zero i), fun _ => rfl⟩
  | succ n ih =>
    unfold allB
    rw [Bool.and_eq_true, ih]
    exact ⟨fun h i hi => if hn : i = n then by rw [hn]; exact h.2 else h.1 i (by omega), fun h => ⟨fun i hi => h i (by omega), h n (Nat.lt_succ_self n)⟩⟩
def cntB (p : Nat → Bool) : Nat → Nat
  | 0 => 0
  | i + 1 => cntB p i + (if p i then 1 else 0)
theorem cntB_le (p : Nat → Bool) : ∀ n, cntB p n ≤ n
  | 0 => Nat.le_refl 0
  | n + 1 => by have := cntB_le p n; unfold cntB; split <;> omega
theorem cntB_S {p : Nat → Bool} {i : Nat} : cntB p (i + 1) = cntB p i + (if p i then 1 else 0) := rfl
theorem cntB_t {p : Nat → Bool} {i : Nat} (h : p i = true) : cntB p (i + 1) = cntB p i + 1 := by rw [cntB_S, if_pos h]
theorem cntB_f {p : Nat → Bool} {i : Nat} (h : p i = false) : cntB p (i + 1) = cntB p i := by rw [cntB_S, if_neg (by rw [h]; decide)]; rfl
/-- whether two equations have their one solution there -/
def eqOK (q : eqT) (x : Int32) : Prop := (∀ z ∈ [q.1, q.2.1, q.2.2.1, q.2.2.2], -9999 ≤ z.toInt ∧ z.toInt ≤ 9999) ∧ q.1.toInt ≠ q.2.2.1.toInt ∧ (q.1.toInt - q.2.2.1.toInt) * x.toInt = q.2.2.2.toInt - q.2.1.toInt
def exOK (n T : Nat) (e : exT) : Prop := e.1 < n ∧ e.2.1 < 1260 ∧ eqOK e.2.2.1 (ex_sol e.2.1) ∧ e.2.2.2.1 ≤ T ∧ e.2.2.2.2 ≤ T
/-- the last three of a learner's numbers in the class's row -/
def riOK (md : List Nat) (ln : Nat → Int32) (old : Nat) : Prop := old < 3 ∧ (∀ x ∈ md, x < 1260) ∧ ∀ t, t < 3 → ln ((old + 2 - t) % 3) = if t < md.length then nI (md.getD (md.length - 1 - t) 0) else -1
def maOK (sk : skT) (n k T : Nat) (v : maT) (w : Nat → Int64) : Prop := mOd v ≤ 1000 ∧ mTo v ≤ 1000 ∧ (mAn v).length ≤ T ∧ mRo v ≤ T ∧ mDu v ≤ 400 ∧ tie w (mAn v) ∧ (k < n → mOd v = mvs sk.1 sk.2.1 sk.2.2.1 (mTo v) (mAn v)) ∧ (n ≤ k → mAn v = [] ∧ mOd v = mTo v ∧ mDu v = 0)
def skOK (n : Nat) (sk : skT) : Prop := sk.1 ≤ 500 ∧ sk.2.1 ≤ 500 ∧ sk.2.2.1 ≤ 500 ∧ sk.2.2.2 < 2 ^ n
def cOK (S : AT) (X : CX) (T : Nat) : Prop := (aN S ≤ 10 ∧ aL S ≤ 4 ∧ aD S ≤ 200 ∧ T ≤ 512) ∧ (∀ k, k < aN S → skOK (aN S) (aS S k)) ∧ (∀ j k, j < aL S → k < 10 → maOK (aS S k) (aN S) k T (aM S j k) (xW X j k)) ∧ (∀ j, j < aL S → ∀ d, d ≠ 0 → cntB (fun k => decide (mDu (aM S j k) = d)) (aN S) ≤ 2) ∧ (∀ j, j < aL S → (∀ e, lEx (aE S j) = some e → exOK (aN S) T e) ∧ riOK (lMd (aE S j)) (xLn X j) (xOl X j) ∧ (lMd (aE S j)).length ≤ T) ∧ xB X < 33
/-- whether a skill is open -/
def opF (S : AT) (j k : Nat) : Nat → Bool := fun i => !((aS S k).2.2.2.testBit i) || decide (700 ≤ mOd (aM S j i))
def opn (S : AT) (j k : Nat) : Bool := mOp (aM S j k) || allB (opF S j k) (aN S)
/-- how many other skills are due on a day -/
def odF (S : AT) (j k d : Nat) : Nat → Bool := fun o => decide (o ≠ k ∧ mDu (aM S j o) = d)
def odu (S : AT) (j k d : Nat) : Nat := cntB (odF S j k d) (aN S)
def dueB (S : AT) (j k : Nat) : Bool := decide (mDu (aM S j k) ≠ 0 ∧ mDu (aM S j k) ≤ aD S + 1)
theorem lt_pow31 {n : Nat} (h : n < 1024) : n < 2 ^ 31 := by omega
theorem pow_le10 {m n : Nat} (h : m < 2 ^ n) (hn : n ≤ 10) : m < 1024 := Nat.lt_of_lt_of_le h (Nat.pow_le_pow_right (by decide) hn)

set_option maxHeartbeats 4000000 in
set_option maxRecDepth 100000 in
theorem c_X7_skillAt (l : Launch) (hfl : l.stackTraces = false) (G : mq_G) (A : Nat → Prop) (f : mq_F) (ad : AD) (S : AT) (X : CX) (S2 : AT) (Y : MX) (O : OX) (T : Nat) (i : Int32) : vx_Met l yX7_skillAt wsX7_skillAt ({ frames := 7, cells := 1, slots := 6, locals := 120 } : Room) (mq_Pc G A f (WR G f ad S X S2 Y O ∧ cOK S X T) [.ref (ad 0 0 0), .int i]) (mq_Qq G A (fun r g => f = g ∧ ∃ k, k < aN S ∧ i = nI k ∧ r = some (ad 4 k 0))) (mq_X G A (fun E g => E = "java/lang/IndexOutOfBoundsException" ∧ f = g ∧ ¬ vp_in i (aN S))) 1 6 A := by
  refine vx_ofW (cc := cX7_skillAt) (maxL := 2) (ret := (some (.object "Tutorlight$Skill"))) (by decide) rfl ?_
  intro p e s m args below meth c s₁ B hml ht9 hv
  obtain ⟨rfl, ⟨hK, hZ, hM, hA⟩, hp⟩ := hv
  have hx := B.exec
  have hb := B.bytes
  have hr := B.returns
  have hts := atoms_spec (ws := wsX7_skillAt) B.pre
  have hown : s.vm.findClass RX7 = some m.cls := findClass_of_methodNamed B.named
  have hlocks := B.notSynchronized
  have hS : va_S A s.heap s.heap [] := va_S.rf
  have hl := lv_entry ([.ref (ad 0 0 0), .int i]) (n := 2) (Nat.le_of_ble_eq_true rfl)
  rw [lg_entry_eq]
  generalize (lg_sl ([.ref (ad 0 0 0), .int i]) ++ List.replicate (2 - (lg_sl ([.ref (ad 0 0 0), .int i])).length) Slot.unset).toArray = ls at hl ⊢
  have hl : lv_has ls 2 [(0, .ref (ad 0 0 0)), (1, .int i)] := hl
  have w0 := hts (.classLink RX7 254 "java/lang/IndexOutOfBoundsException") (List.mem_of_getElem? (i := 1) rfl)
  have w1 := hts (.initialized "java/lang/IndexOutOfBoundsException") (List.mem_of_getElem? (i := 2) rfl)
  have w2 := hts (.fieldLink RX7 32 "Tutorlight" "skillCount" "I") (List.mem_of_getElem? (i := 3) rfl)
  have w3 := hts (.fieldLink RX7 11 "Tutorlight" "skills" "[LTutorlight$Skill;") (List.mem_of_getElem? (i := 4) rfl)
  have nX7 : ∀ w ∈ wsX70, w ∈ wsX7_skillAt := fun _ h => List.mem_cons_of_mem _ (List.mem_append_left _ (List.mem_append_right _ h))
  obtain ⟨hR, hO⟩ := hp
  obtain ⟨⟨hn, hl4, hd2, hT⟩, hsk, hma, hdc, hle, hxb⟩ := id hO
  have y0_1 := hR.1 _ _ _ _ (t0)
  have y1_2 := hR.1 _ _ _ _ (t1)
  refine lv_iload_n hx hb dX7_skillAt_0 rfl (lv_at hl 1 rfl) ?_
  refine lv_if_lt (tgt := 12) hx hb dX7_skillAt_1 (by decide) (fun c_1 => ?_) (fun c_1 => ?_)
  · obtain ⟨sa, hsa⟩ := mq_str hZ (own := RX7) (k := 256) (tx := "no such skill") (by decide +kernel)
    refine vx_throwSW (A := A) (own := RX7) (cls := "java/lang/IndexOutOfBoundsException") (text := "no such skill") (names := ["java/lang/RuntimeException", "java/lang/Exception"]) (ik := 254) (is := 256) (ic := 258) hx hb hfl hown (by decide +kernel) (by decide +kernel) w0 w1 hsa (mq_hat hZ (fun w h => hts w (List.mem_cons_of_mem _ (List.mem_append_right _ h))) (by decide +kernel)) (by decide +kernel) hZ.1.1 hZ.1.2 hS (by rw [hml]; exact hl.1) dX7_skillAt_12 dX7_skillAt_15 dX7_skillAt_16 dX7_skillAt_19 dX7_skillAt_22 (fun x hx => (ht9 x hx).elim) (Nat.le_of_ble_eq_true rfl) (Nat.le_of_ble_eq_true rfl) (Nat.le_of_ble_eq_true rfl) (Nat.le_of_ble_eq_true rfl) hlocks (fun t9 hv9 hz9 hq9 => mq_thrown hM hS hz9 hq9 (⟨rfl, rfl, fun q => q (Or.inl c_1)⟩)) hS.2.2 (Nat.le_of_ble_eq_true rfl) (Nat.le_of_ble_eq_true rfl)
  · obtain ⟨k, hk31, rfl⟩ := nI_of c_1
    refine lv_iload_n hx hb dX7_skillAt_4 rfl (lv_at hl 1 rfl) ?_
    refine lv_aload_n hx hb dX7_skillAt_5 rfl (lv_at hl 0 rfl) ?_
    refine mq_get (ci := 12) (v := .int (nI (aN S))) (C := RX7) (T := TX7) (N := 6) hx hb hts nX7 hown hK hM y0_1 rfl 3 (by decide) w2 (fun _ h9 => h9) rfl dX7_skillAt_6 ?_
    refine lv_icmp_lt (tgt := 23) hx hb dX7_skillAt_9 (by decide) (fun c_9 => ?_) (fun c_9 => ?_)
    · replace c_9 : nI k < nI (aN S) := c_9
      rw [nI_ltI (by omega) (by omega)] at c_9
      refine lv_aload_n hx hb dX7_skillAt_23 rfl (lv_at hl 0 rfl) ?_
      refine mq_get (ci := 12) (v := .ref (ad 1 0 0)) (C := RX7) (T := TX7) (N := 6) hx hb hts nX7 hown hK hM y0_1 rfl 0 (by decide) w3 (fun _ h9 => h9) rfl dX7_skillAt_24 ?_
      refine lv_iload_n hx hb dX7_skillAt_27 rfl (lv_at hl 1 rfl) ?_
      refine mq_aald (t0 := 6) (v := .ref (ad 4 k 0)) hx hb hK hM rfl y1_2 (vp_in_nI (by omega) (by omega)) (by rw [show (nI k : Int32).toNatClampNeg = k from nI_clamp (by omega)]; exact congrArg va_rf (rf_at (by omega))) dX7_skillAt_28 ?_
      refine vx_ret ?_
      refine W.widen (k := 1) (n := 6) (Nat.le_of_ble_eq_true rfl) (Nat.le_of_ble_eq_true rfl) ?_
      exact mq_aret (r := some (ad 4 k 0)) rfl hx hb hr (Or.inl ⟨_, rfl⟩) hlocks hM hS (⟨rfl, k, c_9, rfl, rfl⟩) dX7_skillAt_29
    · replace c_9 : ¬ nI k < nI (aN S) := c_9
      rw [nI_ltI (by omega) (by omega)] at c_9
      obtain ⟨sa, hsa⟩ := mq_str hZ (own := RX7) (k := 256) (tx := "no such skill") (by decide +kernel)
      refine vx_throwSW (A := A) (own := RX7) (cls := "java/lang/IndexOutOfBoundsException") (text := "no such skill") (names := ["java/lang/RuntimeException", "java/lang/Exception"]) (ik := 254) (is := 256) (ic := 258) hx hb hfl hown (by decide +kernel) (by decide +kernel) w0 w1 hsa (mq_hat hZ (fun w h => hts w (List.mem_cons_of_mem _ (List.mem_append_right _ h))) (by decide +kernel)) (by decide +kernel) hZ.1.1 hZ.1.2 hS (by rw [hml]; exact hl.1) dX7_skillAt_12 dX7_skillAt_15 dX7_skillAt_16 dX7_skillAt_19 dX7_skillAt_22 (fun x hx => (ht9 x hx).elim) (Nat.le_of_ble_eq_true rfl) (Nat.le_of_ble_eq_true rfl) (Nat.le_of_ble_eq_true rfl) (Nat.le_of_ble_eq_true rfl) hlocks (fun t9 hv9 hz9 hq9 => mq_thrown hM hS hz9 hq9 (⟨rfl, rfl, fun q => by rw [vp_in_iff, nI_toInt (by omega)] at q; omega⟩)) hS.2.2 (Nat.le_of_ble_eq_true rfl) (Nat.le_of_ble_eq_true rfl)

set_option maxHeartbeats 4000000 in
set_option maxRecDepth 100000 in
theorem c_X7_learnerAt (l : Launch) (hfl : l.stackTraces = false) (G : mq_G) (A : Nat → Prop) (f : mq_F) (ad : AD) (S : AT) (X : CX) (S2 : AT) (Y : MX) (O : OX) (T : Nat) (i : Int32) : vx_Met l yX7_learnerAt wsX7_learnerAt ({ frames := 7, cells := 1, slots := 6, locals := 120 } : Room) (mq_Pc G A f (WR G f ad S X S2 Y O ∧ cOK S X T) [.ref (ad 0 0 0), .int i]) (mq_Qq G A (fun r g => f = g ∧ ∃ k, k < aL S ∧ i = nI k ∧ r = some (ad 5 k 0))) (mq_X G A (fun E g => E = "java/lang/IndexOutOfBoundsException" ∧ f = g ∧ ¬ vp_in i (aL S))) 1 6 A := by
  refine vx_ofW (cc := cX7_learnerAt) (maxL := 2) (ret := (some (.object "Tutorlight$Learner"))) (by decide) rfl ?_
  intro p e s m args below meth c s₁ B hml ht9 hv
  obtain ⟨rfl, ⟨hK, hZ, hM, hA⟩, hp⟩ := hv
  have hx := B.exec
  have hb := B.bytes
  have hr := B.returns
  have hts := atoms_spec (ws := wsX7_learnerAt) B.pre
  have hown : s.vm.findClass RX7 = some m.cls := findClass_of_methodNamed B.named
  have hlocks := B.notSynchronized
  have hS : va_S A s.heap s.heap [] := va_S.rf
  have hl := lv_entry ([.ref (ad 0 0 0), .int i]) (n := 2) (Nat.le_of_ble_eq_true rfl)
  rw [lg_entry_eq]
  generalize (lg_sl ([.ref (ad 0 0 0), .int i]) ++ List.replicate (2 - (lg_sl ([.ref (ad 0 0 0), .int i])).length) Slot.unset).toArray = ls at hl ⊢
  have hl : lv_has ls 2 [(0, .ref (ad 0 0 0)), (1, .int i)] := hl
  have w0 := hts (.classLink RX7 254 "java/lang/IndexOutOfBoundsException") (List.mem_of_getElem? (i := 1) rfl)
  have w1 := hts (.initialized "java/lang/IndexOutOfBoundsException") (List.mem_of_getElem? (i := 2) rfl)
  have w2 := hts (.fieldLink RX7 66 "Tutorlight" "learnerCount" "I") (List.mem_of_getElem? (i := 3) rfl)
  have w3 := hts (.fieldLink RX7 17 "Tutorlight" "learners" "[LTutorlight$Learner;") (List.mem_of_getElem? (i := 4) rfl)
  have nX7 : ∀ w ∈ wsX70, w ∈ wsX7_learnerAt := fun _ h => List.mem_cons_of_mem _ (List.mem_append_left _ (List.mem_append_right _ h))
  obtain ⟨hR, hO⟩ := hp
  obtain ⟨⟨hn, hl4, hd2, hT⟩, hsk, hma, hdc, hle, hxb⟩ := id hO
  have y0_3 := hR.1 _ _ _ _ (t0)
  have y2_4 := hR.1 _ _ _ _ (t2)
  refine lv_iload_n hx hb dX7_learnerAt_0 rfl (lv_at hl 1 rfl) ?_
  refine lv_if_lt (tgt := 12) hx hb dX7_learnerAt_1 (by decide) (fun c_1 => ?_) (fun c_1 => ?_)
  · obtain ⟨sa, hsa⟩ := mq_str hZ (own := RX7) (k := 259) (tx := "no such learner") (by decide +kernel)
    refine vx_throwSW (A := A) (own := RX7) (cls := "java/lang/IndexOutOfBoundsException") (text := "no such learner") (names := ["java/lang/RuntimeException", "java/lang/Exception"]) (ik := 254) (is := 259) (ic := 258) hx hb hfl hown (by decide +kernel) (by decide +kernel) w0 w1 hsa (mq_hat hZ (fun w h => hts w (List.mem_cons_of_mem _ (List.mem_append_right _ h))) (by decide +kernel)) (by decide +kernel) hZ.1.1 hZ.1.2 hS (by rw [hml]; exact hl.1) dX7_learnerAt_12 dX7_learnerAt_15 dX7_learnerAt_16 dX7_learnerAt_19 dX7_learnerAt_22 (fun x hx => (ht9 x hx).elim) (Nat.le_of_ble_eq_true rfl) (Nat.le_of_ble_eq_true rfl) (Nat.le_of_ble_eq_true rfl) (Nat.le_of_ble_eq_true rfl) hlocks (fun t9 hv9 hz9 hq9 => mq_thrown hM hS hz9 hq9 (⟨rfl, rfl, fun q => q (Or.inl c_1)⟩)) hS.2.2 (Nat.le_of_ble_eq_true rfl) (Nat.le_of_ble_eq_true rfl)
  · obtain ⟨k, hk31, rfl⟩ := nI_of c_1
    refine lv_iload_n hx hb dX7_learnerAt_4 rfl (lv_at hl 1 rfl) ?_
    refine lv_aload_n hx hb dX7_learnerAt_5 rfl (lv_at hl 0 rfl) ?_
    refine mq_get (ci := 12) (v := .int (nI (aL S))) (C := RX7) (T := TX7) (N := 6) hx hb hts nX7 hown hK hM y0_3 rfl 4 (by decide) w2 (fun _ h9 => h9) rfl dX7_learnerAt_6 ?_
    refine lv_icmp_lt (tgt := 23) hx hb dX7_learnerAt_9 (by decide) (fun c_9 => ?_) (fun c_9 => ?_)
    · replace c_9 : nI k < nI (aL S) := c_9
      rw [nI_ltI (by omega) (by omega)] at c_9
      refine lv_aload_n hx hb dX7_learnerAt_23 rfl (lv_at hl 0 rfl) ?_
      refine mq_get (ci := 12) (v := .ref (ad 2 0 0)) (C := RX7) (T := TX7) (N := 6) hx hb hts nX7 hown hK hM y0_3 rfl 1 (by decide) w3 (fun _ h9 => h9) rfl dX7_learnerAt_24 ?_
      refine lv_iload_n hx hb dX7_learnerAt_27 rfl (lv_at hl 1 rfl) ?_
      refine mq_aald (t0 := 4) (v := .ref (ad 5 k 0)) hx hb hK hM rfl y2_4 (vp_in_nI (by omega) (by omega)) (by rw [show (nI k : Int32).toNatClampNeg = k from nI_clamp (by omega)]; exact congrArg va_rf (rf_at (by omega))) dX7_learnerAt_28 ?_
      refine vx_ret ?_
      refine W.widen (k := 1) (n := 6) (Nat.le_of_ble_eq_true rfl) (Nat.le_of_ble_eq_true rfl) ?_
      exact mq_aret (r := some (ad 5 k 0)) rfl hx hb hr (Or.inl ⟨_, rfl⟩) hlocks hM hS (⟨rfl, k, c_9, rfl, rfl⟩) dX7_learnerAt_29
    · replace c_9 : ¬ nI k < nI (aL S) := c_9
      rw [nI_ltI (by omega) (by omega)] at c_9
      obtain ⟨sa, hsa⟩ := mq_str hZ (own := RX7) (k := 259) (tx := "no such learner") (by decide +kernel)
      refine vx_throwSW (A := A) (own := RX7) (cls := "java/lang/IndexOutOfBoundsException") (text := "no such learner") (names := ["java/lang/RuntimeException", "java/lang/Exception"]) (ik := 254) (is := 259) (ic := 258) hx hb hfl hown (by decide +kernel) (by decide +kernel) w0 w1 hsa (mq_hat hZ (fun w h => hts w (List.mem_cons_of_mem _ (List.mem_append_right _ h))) (by decide +kernel)) (by decide +kernel) hZ.1.1 hZ.1.2 hS (by rw [hml]; exact hl.1) dX7_learnerAt_12 dX7_learnerAt_15 dX7_learnerAt_16 dX7_learnerAt_19 dX7_learnerAt_22 (fun x hx => (ht9 x hx).elim) (Nat.le_of_ble_eq_true rfl) (Nat.le_of_ble_eq_true rfl) (Nat.le_of_ble_eq_true rfl) (Nat.le_of_ble_eq_true rfl) hlocks (fun t9 hv9 hz9 hq9 => mq_thrown hM hS hz9 hq9 (⟨rfl, rfl, fun q => by rw [vp_in_iff, nI_toInt (by omega)] at q; omega⟩)) hS.2.2 (Nat.le_of_ble_eq_true rfl) (Nat.le_of_ble_eq_true rfl)

set_option maxHeartbeats 4000000 in
set_option maxRecDepth 100000 in
theorem c_X7_masteryAt (l : Launch) (hfl : l.stackTraces = false) (G : mq_G) (A : Nat → Prop) (f : mq_F) (ad : AD) (S : AT) (X : CX) (S2 : AT) (Y : MX) (O : OX) (T : Nat) (ua ub : Int32) : vx_Met l yX7_masteryAt wsX7_masteryAt ({ frames := 8, cells := 2, slots := 12, locals := 141 } : Room) (mq_Pc G A f (WR G f ad S X S2 Y O ∧ cOK S X T) [.ref (ad 0 0 0), .int ua, .int ub]) (mq_Qq G A (fun r g => f = g ∧ ∃ j k, j < aL S ∧ k < aN S ∧ ua = nI j ∧ ub = nI k ∧ r = some (ad 7 j k))) (mq_X G A (fun E g => E = "java/lang/IndexOutOfBoundsException" ∧ f = g ∧ ¬ (vp_in ua (aL S) ∧ vp_in ub (aN S)))) 2 12 A := by
  refine vx_ofW (cc := cX7_masteryAt) (maxL := 4) (ret := (some (.object "Tutorlight$Mastery"))) (by decide) rfl ?_
  intro p e s m args below meth c s₁ B hml ht9 hv
  obtain ⟨rfl, ⟨hK, hZ, hM, hA⟩, hp⟩ := hv
  have hx := B.exec
  have hb := B.bytes
  have hr := B.returns
  have hts := atoms_spec (ws := wsX7_masteryAt) B.pre
  have hown : s.vm.findClass RX7 = some m.cls := findClass_of_methodNamed B.named
  have hlocks := B.notSynchronized
  have hS : va_S A s.heap s.heap [] := va_S.rf
  have hl := lv_entry ([.ref (ad 0 0 0), .int ua, .int ub]) (n := 4) (Nat.le_of_ble_eq_true rfl)
  rw [lg_entry_eq]
  generalize (lg_sl ([.ref (ad 0 0 0), .int ua, .int ub]) ++ List.replicate (4 - (lg_sl ([.ref (ad 0 0 0), .int ua, .int ub])).length) Slot.unset).toArray = ls at hl ⊢
  have hl : lv_has ls 4 [(0, .ref (ad 0 0 0)), (1, .int ua), (2, .int ub)] := hl
  have w0 := hts (.fieldLink RX7 80 "Tutorlight$Learner" "masteries" "[LTutorlight$Mastery;") (List.mem_of_getElem? (i := 1) rfl)
  have nX3 : ∀ w ∈ wsX30, w ∈ wsX7_masteryAt := fun _ h => List.mem_cons_of_mem _ (List.mem_append_left _ (List.mem_append_left _ (List.mem_append_right _ h)))
  obtain ⟨hR, hO⟩ := hp
  obtain ⟨⟨hn, hl4, hd2, hT⟩, hsk, hma, hdc, hle, hxb⟩ := id hO
  have y0_7 := hR.1 _ _ _ _ (t0)
  refine lv_aload_n hx hb dX7_masteryAt_0 rfl (lv_at hl 0 rfl) ?_
  refine lv_iload_n hx hb dX7_masteryAt_1 rfl (lv_at hl 1 rfl) ?_
  refine mq_xcallq (vx_runV (As := [.int ua]) (rest := []) ⟨hx, hb, hml, hown, hts⟩ (c_X7_learnerAt l hfl G A f ad S X S2 Y O T ua) (cwV 1 hts gX7_masteryAt_X7_learnerAt rfl rfl rfl (by decide +kernel) ⟨Nat.le_of_ble_eq_true rfl, Nat.le_of_ble_eq_true rfl⟩) (mq_preV hK hZ hS hA hM (q := (RX7, TX7, 6)) y0_7 rfl (⟨hR, hO⟩) _) rfl rfl hl.1 rfl (lv_room (Nat.le_of_ble_eq_true rfl)) dX7_masteryAt_2 ⟨Nat.le_of_ble_eq_true rfl, Nat.le_of_ble_eq_true rfl⟩) hS (fun E ce q9 g2 H locs p2 hM hS hce hcv hcl => ?_) (fun r2 g2 H locs p2 hM hS => ?_)
  · exact mq_out (List.eq_nil_iff_forall_not_mem.mpr fun x hx => ht9 x hx) hlocks hce hcv hcl hM hS (⟨p2.1, p2.2.1, fun q => p2.2.2 q.1⟩) (Nat.le_of_ble_eq_true rfl) (Nat.le_of_ble_eq_true rfl)
  refine W.widen (k := 1) (n := 6) (Nat.le_of_ble_eq_true rfl) (Nat.le_of_ble_eq_true rfl) ?_
  obtain ⟨rfl, j, hj, rfl, rfl⟩ := p2
  refine lv_astore_n (lv' := [(3, .ref (ad 5 j 0)), (0, .ref (ad 0 0 0)), (1, .int (nI j)), (2, .int ub)]) hx hb dX7_masteryAt_5 rfl hl (by decide) rfl (fun ls hl => ?_)
  refine lv_aload_n hx hb dX7_masteryAt_6 rfl (lv_at hl 1 rfl) ?_
  refine lv_iload_n hx hb dX7_masteryAt_7 rfl (lv_at hl 3 rfl) ?_
  refine mq_xcallq (vx_runV (As := [.int ub]) (rest := []) ⟨hx, hb, hml, hown, hts⟩ (c_X7_skillAt l hfl G A f ad S X S2 Y O T ub) (cwV 1 hts gX7_masteryAt_X7_skillAt rfl rfl rfl (by decide +kernel) ⟨Nat.le_of_ble_eq_true rfl, Nat.le_of_ble_eq_true rfl⟩) (mq_preV hK hZ hS hA hM (q := (RX7, TX7, 6)) y0_7 rfl (⟨hR, hO⟩) _) rfl rfl hl.1 rfl (lv_room (Nat.le_of_ble_eq_true rfl)) dX7_masteryAt_8 ⟨Nat.le_of_ble_eq_true rfl, Nat.le_of_ble_eq_true rfl⟩) hS (fun E ce q9 g8 H locs p8 hM hS hce hcv hcl => ?_) (fun r8 g8 H locs p8 hM hS => ?_)
  · exact mq_out (List.eq_nil_iff_forall_not_mem.mpr fun x hx => ht9 x hx) hlocks hce hcv hcl hM hS (⟨p8.1, p8.2.1, fun q => p8.2.2 q.2⟩) (Nat.le_of_ble_eq_true rfl) (Nat.le_of_ble_eq_true rfl)
  refine W.widen (k := 2) (n := 12) (Nat.le_of_ble_eq_true rfl) (Nat.le_of_ble_eq_true rfl) ?_
  obtain ⟨rfl, k, hk, rfl, rfl⟩ := p8
  refine lv_pop hx hb dX7_masteryAt_11 rfl ?_
  have y5_5 := hR.1 _ _ _ _ (t5 (j := j) hj)
  have y6_6 := hR.1 _ _ _ _ (t6 (j := j) hj)
  refine lv_aload_n hx hb dX7_masteryAt_12 rfl (lv_at hl 0 rfl) ?_
  refine mq_get (ci := 8) (v := .ref (ad 6 j 0)) (C := RX3) (T := TX3) (N := 5) hx hb hts nX3 hown hK hM y5_5 rfl 0 (by decide) w0 (fun _ h9 => h9) rfl dX7_masteryAt_13 ?_
  refine lv_iload_n hx hb dX7_masteryAt_16 rfl (lv_at hl 3 rfl) ?_
  refine mq_aald (t0 := 5) (v := .ref (ad 7 j k)) hx hb hK hM rfl y6_6 (vp_in_nI (by omega) (by omega)) (by rw [show (nI k : Int32).toNatClampNeg = k from nI_clamp (by omega)]; exact congrArg va_rf (rf_at (by omega))) dX7_masteryAt_17 ?_
  refine vx_ret ?_
  exact mq_aret (r := some (ad 7 j k)) rfl hx hb hr (Or.inl ⟨_, rfl⟩) hlocks hM hS (⟨rfl, j, k, hj, hk, rfl, rfl, rfl⟩) dX7_masteryAt_18
