/-! THE CLASS: what it counts and finds -/
def ffd (p : Nat → Bool) : Nat → Nat → Nat
  | 0, w => w
  | n + 1, w => if p w then ffd p n (w + 1) else w
theorem ffd_le (p : Nat → Bool) : ∀ n w, w ≤ ffd p n w ∧ ffd p n w ≤ w + n
  | 0, w => ⟨Nat.le_refl _, Nat.le_refl _⟩
  | n + 1, w => by
    have := ffd_le p n (w + 1)
    unfold ffd
    split <;> omega
theorem ffd_t {p : Nat → Bool} {n w : Nat} (h : p w = true) : ffd p (n + 1) w = ffd p n (w + 1) := by
  show (if p w then ffd p n (w + 1) else w) = _
  rw [if_pos h]
theorem ffd_f {p : Nat → Bool} {n w : Nat} (h : p w = false) : ffd p n w = w := by
  cases n with
  | zero => rfl
  | succ n => show (if p w then ffd p n (w + 1) else w) = _; rw [if_neg (by rw [h]; decide)]
def ffP (S : AT) (j k : Nat) : Nat → Bool := fun w => decide (2 ≤ odu S j k (w + 1))
def raF (S : AT) (j k : Nat) : Nat → Bool := fun o => dueB S j o && decide (mDu (aM S j o) < mDu (aM S j k) ∨ mDu (aM S j o) = mDu (aM S j k) ∧ o < k)
def rah (S : AT) (j k : Nat) : Nat := cntB (raF S j k) (aN S)
/-- the first open review: 0 none, else one more than the skill -/
def frS (S : AT) (j b i : Nat) : Nat := if dueB S j i && (decide (b = 0 ∨ mDu (aM S j i) < mDu (aM S j (b - 1))) && opn S j i) then i + 1 else b
def frL (S : AT) (j : Nat) : Nat → Nat
  | 0 => 0
  | i + 1 => frS S j (frL S j i) i
/-- the best new skill, and its product -/
def prd (S : AT) (j i : Nat) : Nat := (1000 - mOd (aM S j i)) * (aS S i).2.2.1
def bnS (S : AT) (j : Nat) (b : Nat × Nat) (i : Nat) : Nat × Nat := if decide (mDu (aM S j i) = 0) && (decide (b.2 < prd S j i + 1) && opn S j i) then (i + 1, prd S j i + 1) else b
def bnL (S : AT) (j : Nat) : Nat → Nat × Nat
  | 0 => (0, 0)
  | i + 1 => bnS S j (bnL S j i) i
def chs (S : AT) (j : Nat) : Nat := if frL S j (aN S) = 0 then (bnL S j (aN S)).1 else frL S j (aN S)

set_option maxHeartbeats 4000000 in
set_option maxRecDepth 100000 in
theorem c_X7_isOpenFor (l : Launch) (G : mq_G) (A : Nat → Prop) (f : mq_F) (ad : AD) (S : AT) (X : CX) (S2 : AT) (Y : MX) (O : OX) (T : Nat) (j k : Nat) : Met l yX7_isOpenFor wsX7_isOpenFor ({ frames := 1, cells := 0, slots := 0, locals := 21 } : Room) (mq_Pc G A f (WR G f ad S X S2 Y O ∧ cOK S X T ∧ j < aL S ∧ k < aN S) [.ref (ad 0 0 0), .ref (ad 5 j 0), .int (nI k)]) (mq_Qi G A (fun r g => f = g ∧ r = zb (opn S j k))) 0 0 A := by
  refine Met.ofW (cc := cX7_isOpenFor) (maxL := 4) (ret := (some .boolean)) (by decide) rfl ?_
  intro p e s m args below meth c s₁ B hml hv
  obtain ⟨rfl, ⟨hK, hZ, hM, hA⟩, hp⟩ := hv
  have hx := B.exec
  have hb := B.bytes
  have hr := B.returns
  have hts := atoms_spec (ws := wsX7_isOpenFor) B.pre
  have hown : s.vm.findClass RX7 = some m.cls := findClass_of_methodNamed B.named
  have hlocks := B.notSynchronized
  have hS : va_S A s.heap s.heap [] := va_S.rf
  have hl := lv_entry ([.ref (ad 0 0 0), .ref (ad 5 j 0), .int (nI k)]) (n := 4) (Nat.le_of_ble_eq_true rfl)
  rw [lg_entry_eq]
  generalize (lg_sl ([.ref (ad 0 0 0), .ref (ad 5 j 0), .int (nI k)]) ++ List.replicate (4 - (lg_sl ([.ref (ad 0 0 0), .ref (ad 5 j 0), .int (nI k)])).length) Slot.unset).toArray = ls at hl ⊢
  have hl : lv_has ls 4 [(0, .ref (ad 0 0 0)), (1, .ref (ad 5 j 0)), (2, .int (nI k))] := hl
  have w0 := hts (.fieldLink RX7 80 "Tutorlight$Learner" "masteries" "[LTutorlight$Mastery;") (List.mem_of_getElem? (i := 1) rfl)
  have w1 := hts (.fieldLink RX7 84 "Tutorlight$Mastery" "isOpenedByTeacher" "Z") (List.mem_of_getElem? (i := 2) rfl)
  have w2 := hts (.fieldLink RX7 32 "Tutorlight" "skillCount" "I") (List.mem_of_getElem? (i := 3) rfl)
  have w3 := hts (.fieldLink RX7 11 "Tutorlight" "skills" "[LTutorlight$Skill;") (List.mem_of_getElem? (i := 4) rfl)
  have w4 := hts (.fieldLink RX7 96 "Tutorlight$Mastery" "odds" "I") (List.mem_of_getElem? (i := 5) rfl)
  have nX3 : ∀ w ∈ wsX30, w ∈ wsX7_isOpenFor := fun _ h => List.mem_cons_of_mem _ (List.mem_append_left _ (List.mem_append_left _ (List.mem_append_left _ (List.mem_append_right _ h))))
  have nX4 : ∀ w ∈ wsX40, w ∈ wsX7_isOpenFor := fun _ h => List.mem_cons_of_mem _ (List.mem_append_left _ (List.mem_append_left _ (List.mem_append_right _ h)))
  have nX7 : ∀ w ∈ wsX70, w ∈ wsX7_isOpenFor := fun _ h => List.mem_cons_of_mem _ (List.mem_append_left _ (List.mem_append_right _ h))
  obtain ⟨hR, hO, hj, hk⟩ := hp
  obtain ⟨⟨hn, hl4, hd2, hT⟩, hsk, hma, hdc, hle, hxb⟩ := id hO
  have y0_9 := hR.1 _ _ _ _ (t0)
  have y1_10 := hR.1 _ _ _ _ (t1)
  have y4_11 := hR.1 _ _ _ _ (t4 (j := k) hk)
  have y5_12 := hR.1 _ _ _ _ (t5 (j := j) hj)
  have y6_13 := hR.1 _ _ _ _ (t6 (j := j) hj)
  have y7_14 := hR.1 _ _ _ _ (t7 (j := j) (k := k) hj (by omega))
  refine lv_aload_n hx hb dX7_isOpenFor_0 rfl (lv_at hl 1 rfl) ?_
  refine mq_get (ci := 8) (v := .ref (ad 6 j 0)) (C := RX3) (T := TX3) (N := 5) hx hb hts nX3 hown hK hM y5_12 rfl 0 (by decide) w0 (fun _ h9 => h9) rfl dX7_isOpenFor_1 ?_
  refine lv_iload_n hx hb dX7_isOpenFor_4 rfl (lv_at hl 2 rfl) ?_
  refine mq_aald (t0 := 5) (v := .ref (ad 7 j k)) hx hb hK hM rfl y6_13 (vp_in_nI (by omega) (by omega)) (by rw [show (nI k : Int32).toNatClampNeg = k from nI_clamp (by omega)]; exact congrArg va_rf (rf_at (by omega))) dX7_isOpenFor_5 ?_
  refine mq_get (ci := 9) (v := .int (zb (mOp (aM S j k)))) (C := RX4) (T := TX4) (N := 7) hx hb hts nX4 hown hK hM y7_14 rfl 3 (by decide) w1 (fun _ h9 => h9) rfl dX7_isOpenFor_6 ?_
  refine lv_if_eq (tgt := 14) hx hb dX7_isOpenFor_9 (by decide) (fun c_9 => ?_) (fun c_9 => ?_)
  · replace c_9 : zb (mOp (aM S j k)) = 0 := c_9
    rw [zb_0] at c_9
    refine lv_iconst (v := 0) hx hb dX7_isOpenFor_14 (by decide) ?_
    refine lv_istore_n (lv' := [(3, .int 0), (0, .ref (ad 0 0 0)), (1, .ref (ad 5 j 0)), (2, .int (nI k))]) hx hb dX7_isOpenFor_15 rfl hl (by decide) rfl (fun ls hl => ?_)
    have K16 : ∀ (n9 : Nat) (i : Nat), (aN S - i) < n9 → (i ≤ aN S) → (allB (opF S j k) i = true) → ∀ (H : Heap) (locs : List Loc), mq_W G.1 A f H → va_S A s.heap H locs → ∀ (ls : Array Slot), lv_has ls 4 [(0, .ref (ad 0 0 0)), (1, .ref (ad 5 j 0)), (2, .int (nI k)), (3, .int (nI i))] → W p l e (headSpec wsX7_isOpenFor ({ frames := 1, cells := 0, slots := 0, locals := 21 } : Room)).room s m ([.ref (ad 0 0 0), .ref (ad 5 j 0), .int (nI k)] : List Value).toArray below meth c H locs 0 0 (MQ below (mq_Qi G A (fun r g => f = g ∧ r = zb (opn S j k))) ([.ref (ad 0 0 0), .ref (ad 5 j 0), .int (nI k)] : List Value).toArray s 0 0 A) (F0 m 16 ls []) := by
      intro n9
      induction n9 with
      | zero => intro i hn9; exact absurd hn9 (Nat.not_lt_zero _)
      | succ n9 ih16 =>
        intro i hn9 hi hq H locs hM hS ls hl
        refine lv_iload_n hx hb dX7_isOpenFor_16 rfl (lv_at hl 3 rfl) ?_
        refine lv_aload_n hx hb dX7_isOpenFor_17 rfl (lv_at hl 0 rfl) ?_
        refine mq_get (ci := 12) (v := .int (nI (aN S))) (C := RX7) (T := TX7) (N := 6) hx hb hts nX7 hown hK hM y0_9 rfl 3 (by decide) w2 (fun _ h9 => h9) rfl dX7_isOpenFor_18 ?_
        refine lv_icmp_ge (tgt := 60) hx hb dX7_isOpenFor_21 (by decide) (fun c_21 => ?_) (fun c_21 => ?_)
        · replace c_21 : nI (aN S) ≤ nI i := c_21
          rw [nI_leI (by omega) (by omega)] at c_21
          refine lv_iconst (v := 1) hx hb dX7_isOpenFor_60 (by decide) ?_
          exact mq_zret (v := 1) hx hb hr (rfl) hlocks hM hS (⟨rfl, by rw [show i = aN S by omega] at hq; simp [opn, hq, zb]⟩) dX7_isOpenFor_61
        · replace c_21 : ¬ nI (aN S) ≤ nI i := c_21
          rw [nI_leI (by omega) (by omega)] at c_21
          refine lv_aload_n hx hb dX7_isOpenFor_24 rfl (lv_at hl 0 rfl) ?_
          refine mq_get (ci := 12) (v := .ref (ad 1 0 0)) (C := RX7) (T := TX7) (N := 6) hx hb hts nX7 hown hK hM y0_9 rfl 0 (by decide) w3 (fun _ h9 => h9) rfl dX7_isOpenFor_25 ?_
          refine lv_iload_n hx hb dX7_isOpenFor_28 rfl (lv_at hl 2 rfl) ?_
          refine mq_aald (t0 := 6) (v := .ref (ad 4 k 0)) hx hb hK hM rfl y1_10 (vp_in_nI (by omega) (by omega)) (by rw [show (nI k : Int32).toNatClampNeg = k from nI_clamp (by omega)]; exact congrArg va_rf (rf_at (by omega))) dX7_isOpenFor_29 ?_
          refine lv_iload_n hx hb dX7_isOpenFor_30 rfl (lv_at hl 3 rfl) ?_
          refine mq_calli (va_runV (As := [.int (nI i)]) (rest := []) ⟨hx, hb, hml, hown, hts⟩ (c_X5_needs l G A f (ad 4 k 0) (aS S k).1 (aS S k).2.1 (aS S k).2.2.1 (aS S k).2.2.2 i) (cwV 1 hts gX7_isOpenFor_X5_needs rfl rfl rfl (by decide +kernel) ⟨Nat.le_of_ble_eq_true rfl, Nat.le_of_ble_eq_true rfl⟩) (mq_preV hK hZ hS hA hM (q := (RX5, TX5, 4)) y4_11 rfl (⟨y4_11, lt_pow31 (pow_le10 (hsk k hk).2.2.2 hn), by omega⟩) _) rfl rfl hl.1 rfl (lv_room (Nat.le_of_ble_eq_true rfl)) dX7_isOpenFor_31 ⟨Nat.le_of_ble_eq_true rfl, Nat.le_of_ble_eq_true rfl⟩) hS (fun r31 g31 H locs p31 hM hS => ?_)
          refine W.widen (k := 0) (n := 0) (Nat.le_of_ble_eq_true rfl) (Nat.le_of_ble_eq_true rfl) ?_
          obtain ⟨rfl, rfl⟩ := p31
          refine lv_if_eq (tgt := 54) hx hb dX7_isOpenFor_34 (by decide) (fun c_34 => ?_) (fun c_34 => ?_)
          · replace c_34 : zb ((aS S k).2.2.2.testBit i) = 0 := c_34
            rw [zb_0] at c_34
            refine lv_iinc (v := nI (i + 1)) (lv' := [(3, .int (nI (i + 1))), (0, .ref (ad 0 0 0)), (1, .ref (ad 5 j 0)), (2, .int (nI k))]) hx hb dX7_isOpenFor_54 hl (k := 3) rfl (nI_add _ _) (by decide) rfl (fun ls hl => ?_)
            refine lv_goto (tgt := 16) hx hb dX7_isOpenFor_57 (by decide) ?_
            exact ih16 (i + 1) (by omega) (by omega) (by show (_ && _) = true; rw [hq]; simp [opF, c_34]) _ _ hM hS _ (lv_sub hl [1, 2, 3, 0] rfl)
          · replace c_34 : ¬ zb ((aS S k).2.2.2.testBit i) = 0 := c_34
            rw [zb_n0] at c_34
            obtain ⟨m1, m2, m3, m4, m5, m6, m7, m8⟩ := hma j i hj (by omega)
            have y7_8 := hR.1 _ _ _ _ (t7 (j := j) (k := i) hj (by omega))
            refine lv_aload_n hx hb dX7_isOpenFor_37 rfl (lv_at hl 1 rfl) ?_
            refine mq_get (ci := 8) (v := .ref (ad 6 j 0)) (C := RX3) (T := TX3) (N := 5) hx hb hts nX3 hown hK hM y5_12 rfl 0 (by decide) w0 (fun _ h9 => h9) rfl dX7_isOpenFor_38 ?_
            refine lv_iload_n hx hb dX7_isOpenFor_41 rfl (lv_at hl 3 rfl) ?_
            refine mq_aald (t0 := 5) (v := .ref (ad 7 j i)) hx hb hK hM rfl y6_13 (vp_in_nI (by omega) (by omega)) (by rw [show (nI i : Int32).toNatClampNeg = i from nI_clamp (by omega)]; exact congrArg va_rf (rf_at (by omega))) dX7_isOpenFor_42 ?_
            refine mq_get (ci := 9) (v := .int (nI (mOd (aM S j i)))) (C := RX4) (T := TX4) (N := 7) hx hb hts nX4 hown hK hM y7_8 rfl 0 (by decide) w4 (fun _ h9 => h9) rfl dX7_isOpenFor_43 ?_
            refine lv_sipush (v := 700) hx hb dX7_isOpenFor_46 (by decide) ?_
            refine lv_icmp_ge (tgt := 54) hx hb dX7_isOpenFor_49 (by decide) (fun c_49 => ?_) (fun c_49 => ?_)
            · replace c_49 : nI 700 ≤ nI (mOd (aM S j i)) := c_49
              rw [nI_leI (by omega) (by omega)] at c_49
              refine lv_iinc (v := nI (i + 1)) (lv' := [(3, .int (nI (i + 1))), (0, .ref (ad 0 0 0)), (1, .ref (ad 5 j 0)), (2, .int (nI k))]) hx hb dX7_isOpenFor_54 hl (k := 3) rfl (nI_add _ _) (by decide) rfl (fun ls hl => ?_)
              refine lv_goto (tgt := 16) hx hb dX7_isOpenFor_57 (by decide) ?_
              exact ih16 (i + 1) (by omega) (by omega) (by show (_ && _) = true; rw [hq]; simp [opF, c_49]) _ _ hM hS _ (lv_sub hl [1, 2, 3, 0] rfl)
            · replace c_49 : ¬ nI 700 ≤ nI (mOd (aM S j i)) := c_49
              rw [nI_leI (by omega) (by omega)] at c_49
              refine lv_iconst (v := 0) hx hb dX7_isOpenFor_52 (by decide) ?_
              exact mq_zret (v := 0) hx hb hr (rfl) hlocks hM hS (⟨rfl, by rw [opn, c_9, allB_false (i := i) (by omega) (by simp [opF, c_34]; omega)]; rfl⟩) dX7_isOpenFor_53
    exact K16 _ 0 (Nat.lt_succ_self _) (Nat.zero_le _) (rfl) _ _ hM hS _ (lv_sub hl [1, 2, 3, 0] rfl)
  · replace c_9 : ¬ zb (mOp (aM S j k)) = 0 := c_9
    rw [zb_n0] at c_9
    refine lv_iconst (v := 1) hx hb dX7_isOpenFor_12 (by decide) ?_
    exact mq_zret (v := 1) hx hb hr (rfl) hlocks hM hS (⟨rfl, by simp [opn, c_9, zb]⟩) dX7_isOpenFor_13

set_option maxHeartbeats 4000000 in
set_option maxRecDepth 100000 in
theorem c_X7_othersDueOn (l : Launch) (G : mq_G) (A : Nat → Prop) (f : mq_F) (ad : AD) (S : AT) (X : CX) (S2 : AT) (Y : MX) (O : OX) (T : Nat) (j k d : Nat) : Met l yX7_othersDueOn wsX7_othersDueOn ({ frames := 0, cells := 0, slots := 0, locals := 0 } : Room) (mq_Pc G A f (WR G f ad S X S2 Y O ∧ cOK S X T ∧ j < aL S ∧ k < aN S ∧ d < 2 ^ 20) [.ref (ad 0 0 0), .ref (ad 5 j 0), .int (nI k), .int (du d)]) (mq_Qi G A (fun r g => f = g ∧ r = nI (odu S j k d))) 0 0 A := by
  refine Met.ofW (cc := cX7_othersDueOn) (maxL := 6) (ret := (some .int)) (by decide) rfl ?_
  intro p e s m args below meth c s₁ B hml hv
  obtain ⟨rfl, ⟨hK, hZ, hM, hA⟩, hp⟩ := hv
  have hx := B.exec
  have hb := B.bytes
  have hr := B.returns
  have hts := atoms_spec (ws := wsX7_othersDueOn) B.pre
  have hown : s.vm.findClass RX7 = some m.cls := findClass_of_methodNamed B.named
  have hlocks := B.notSynchronized
  have hS : va_S A s.heap s.heap [] := va_S.rf
  have hl := lv_entry ([.ref (ad 0 0 0), .ref (ad 5 j 0), .int (nI k), .int (du d)]) (n := 6) (Nat.le_of_ble_eq_true rfl)
  rw [lg_entry_eq]
  generalize (lg_sl ([.ref (ad 0 0 0), .ref (ad 5 j 0), .int (nI k), .int (du d)]) ++ List.replicate (6 - (lg_sl ([.ref (ad 0 0 0), .ref (ad 5 j 0), .int (nI k), .int (du d)])).length) Slot.unset).toArray = ls at hl ⊢
  have hl : lv_has ls 6 [(0, .ref (ad 0 0 0)), (1, .ref (ad 5 j 0)), (2, .int (nI k)), (3, .int (du d))] := hl
  have w0 := hts (.fieldLink RX7 32 "Tutorlight" "skillCount" "I") (List.mem_of_getElem? (i := 1) rfl)
  have w1 := hts (.fieldLink RX7 80 "Tutorlight$Learner" "masteries" "[LTutorlight$Mastery;") (List.mem_of_getElem? (i := 2) rfl)
  have w2 := hts (.fieldLink RX7 134 "Tutorlight$Mastery" "dueDay" "I") (List.mem_of_getElem? (i := 3) rfl)
  have nX7 : ∀ w ∈ wsX70, w ∈ wsX7_othersDueOn := fun _ h => List.mem_cons_of_mem _ (List.mem_append_left _ (List.mem_append_left _ (List.mem_append_right _ h)))
  have nX3 : ∀ w ∈ wsX30, w ∈ wsX7_othersDueOn := fun _ h => List.mem_cons_of_mem _ (List.mem_append_left _ (List.mem_append_right _ h))
  have nX4 : ∀ w ∈ wsX40, w ∈ wsX7_othersDueOn := fun _ h => List.mem_cons_of_mem _ (List.mem_append_right _ h)
  obtain ⟨hR, hO, hj, hk, hd⟩ := hp
  obtain ⟨⟨hn, hl4, hd2, hT⟩, hsk, hma, hdc, hle, hxb⟩ := id hO
  have y0_16 := hR.1 _ _ _ _ (t0)
  have y5_17 := hR.1 _ _ _ _ (t5 (j := j) hj)
  have y6_18 := hR.1 _ _ _ _ (t6 (j := j) hj)
  refine lv_iconst (v := 0) hx hb dX7_othersDueOn_0 (by decide) ?_
  refine lv_istore (lv' := [(4, .int 0), (0, .ref (ad 0 0 0)), (1, .ref (ad 5 j 0)), (2, .int (nI k)), (3, .int (du d))]) hx hb dX7_othersDueOn_1 hl (by decide) rfl (fun ls hl => ?_)
  refine lv_iconst (v := 0) hx hb dX7_othersDueOn_3 (by decide) ?_
  refine lv_istore (lv' := [(5, .int 0), (4, .int 0), (0, .ref (ad 0 0 0)), (1, .ref (ad 5 j 0)), (2, .int (nI k)), (3, .int (du d))]) hx hb dX7_othersDueOn_4 hl (by decide) rfl (fun ls hl => ?_)
  have K6 : ∀ (n9 : Nat) (i cn : Nat), (aN S - i) < n9 → (i ≤ aN S) → (cn = cntB (odF S j k d) i) → (cn ≤ i) → ∀ (H : Heap) (locs : List Loc), mq_W G.1 A f H → va_S A s.heap H locs → ∀ (ls : Array Slot), lv_has ls 6 [(0, .ref (ad 0 0 0)), (1, .ref (ad 5 j 0)), (2, .int (nI k)), (3, .int (du d)), (4, .int (nI cn)), (5, .int (nI i))] → W p l e (headSpec wsX7_othersDueOn ({ frames := 0, cells := 0, slots := 0, locals := 0 } : Room)).room s m ([.ref (ad 0 0 0), .ref (ad 5 j 0), .int (nI k), .int (du d)] : List Value).toArray below meth c H locs 0 0 (MQ below (mq_Qi G A (fun r g => f = g ∧ r = nI (odu S j k d))) ([.ref (ad 0 0 0), .ref (ad 5 j 0), .int (nI k), .int (du d)] : List Value).toArray s 0 0 A) (F0 m 6 ls []) := by
    intro n9
    induction n9 with
    | zero => intro i cn hn9; exact absurd hn9 (Nat.not_lt_zero _)
    | succ n9 ih6 =>
      intro i cn hn9 hi hq hc H locs hM hS ls hl
      refine lv_iload hx hb dX7_othersDueOn_6 (lv_at hl 5 rfl) ?_
      refine lv_aload_n hx hb dX7_othersDueOn_8 rfl (lv_at hl 0 rfl) ?_
      refine mq_get (ci := 12) (v := .int (nI (aN S))) (C := RX7) (T := TX7) (N := 6) hx hb hts nX7 hown hK hM y0_16 rfl 3 (by decide) w0 (fun _ h9 => h9) rfl dX7_othersDueOn_9 ?_
      refine lv_icmp_ge (tgt := 44) hx hb dX7_othersDueOn_12 (by decide) (fun c_12 => ?_) (fun c_12 => ?_)
      · replace c_12 : nI (aN S) ≤ nI i := c_12
        rw [nI_leI (by omega) (by omega)] at c_12
        refine lv_iload hx hb dX7_othersDueOn_44 (lv_at hl 4 rfl) ?_
        exact mq_iret (v := nI cn) hx hb hr hlocks hM hS (⟨rfl, by rw [hq, odu, show i = aN S by omega]⟩) dX7_othersDueOn_46
      · replace c_12 : ¬ nI (aN S) ≤ nI i := c_12
        rw [nI_leI (by omega) (by omega)] at c_12
        refine lv_iload hx hb dX7_othersDueOn_15 (lv_at hl 5 rfl) ?_
        refine lv_iload_n hx hb dX7_othersDueOn_17 rfl (lv_at hl 2 rfl) ?_
        refine lv_icmp_eq (tgt := 38) hx hb dX7_othersDueOn_18 (by decide) (fun c_18 => ?_) (fun c_18 => ?_)
        · replace c_18 : nI i = nI k := c_18
          rw [nI_eq (by omega) (by omega)] at c_18
          refine lv_iinc (v := nI (i + 1)) (lv' := [(5, .int (nI (i + 1))), (0, .ref (ad 0 0 0)), (1, .ref (ad 5 j 0)), (2, .int (nI k)), (3, .int (du d)), (4, .int (nI cn))]) hx hb dX7_othersDueOn_38 hl (k := 5) rfl (nI_add _ _) (by decide) rfl (fun ls hl => ?_)
          refine lv_goto (tgt := 6) hx hb dX7_othersDueOn_41 (by decide) ?_
          exact ih6 (i + 1) cn (by omega) (by omega) (by rw [cntB_f (by simp [odF, c_18]), hq]) (by omega) _ _ hM hS _ (lv_sub hl [1, 2, 3, 4, 5, 0] rfl)
        · replace c_18 : ¬ nI i = nI k := c_18
          rw [nI_eq (by omega) (by omega)] at c_18
          obtain ⟨m1, m2, m3, m4, m5, m6, m7, m8⟩ := hma j i hj (by omega)
          have y7_15 := hR.1 _ _ _ _ (t7 (j := j) (k := i) hj (by omega))
          refine lv_aload_n hx hb dX7_othersDueOn_21 rfl (lv_at hl 1 rfl) ?_
          refine mq_get (ci := 8) (v := .ref (ad 6 j 0)) (C := RX3) (T := TX3) (N := 5) hx hb hts nX3 hown hK hM y5_17 rfl 0 (by decide) w1 (fun _ h9 => h9) rfl dX7_othersDueOn_22 ?_
          refine lv_iload hx hb dX7_othersDueOn_25 (lv_at hl 5 rfl) ?_
          refine mq_aald (t0 := 5) (v := .ref (ad 7 j i)) hx hb hK hM rfl y6_18 (vp_in_nI (by omega) (by omega)) (by rw [show (nI i : Int32).toNatClampNeg = i from nI_clamp (by omega)]; exact congrArg va_rf (rf_at (by omega))) dX7_othersDueOn_27 ?_
          refine mq_get (ci := 9) (v := .int (du (mDu (aM S j i)))) (C := RX4) (T := TX4) (N := 7) hx hb hts nX4 hown hK hM y7_15 rfl 2 (by decide) w2 (fun _ h9 => h9) rfl dX7_othersDueOn_28 ?_
          refine lv_iload_n hx hb dX7_othersDueOn_31 rfl (lv_at hl 3 rfl) ?_
          refine lv_icmp_ne (tgt := 38) hx hb dX7_othersDueOn_32 (by decide) (fun c_32 => ?_) (fun c_32 => ?_)
          · replace c_32 : ¬ du (mDu (aM S j i)) = du d := c_32
            rw [du_eq (by omega) (by omega)] at c_32
            refine lv_iinc (v := nI (i + 1)) (lv' := [(5, .int (nI (i + 1))), (0, .ref (ad 0 0 0)), (1, .ref (ad 5 j 0)), (2, .int (nI k)), (3, .int (du d)), (4, .int (nI cn))]) hx hb dX7_othersDueOn_38 hl (k := 5) rfl (nI_add _ _) (by decide) rfl (fun ls hl => ?_)
            refine lv_goto (tgt := 6) hx hb dX7_othersDueOn_41 (by decide) ?_
            exact ih6 (i + 1) cn (by omega) (by omega) (by rw [cntB_f (by simp [odF, c_32]), hq]) (by omega) _ _ hM hS _ (lv_sub hl [1, 2, 3, 4, 5, 0] rfl)
          · replace c_32 : du (mDu (aM S j i)) = du d := c_32
            rw [du_eq (by omega) (by omega)] at c_32
            refine lv_iinc (v := nI (cn + 1)) (lv' := [(4, .int (nI (cn + 1))), (0, .ref (ad 0 0 0)), (1, .ref (ad 5 j 0)), (2, .int (nI k)), (3, .int (du d)), (5, .int (nI i))]) hx hb dX7_othersDueOn_35 hl (k := 4) rfl (nI_add _ _) (by decide) rfl (fun ls hl => ?_)
            refine lv_iinc (v := nI (i + 1)) (lv' := [(5, .int (nI (i + 1))), (4, .int (nI (cn + 1))), (0, .ref (ad 0 0 0)), (1, .ref (ad 5 j 0)), (2, .int (nI k)), (3, .int (du d))]) hx hb dX7_othersDueOn_38 hl (k := 5) rfl (nI_add _ _) (by decide) rfl (fun ls hl => ?_)
            refine lv_goto (tgt := 6) hx hb dX7_othersDueOn_41 (by decide) ?_
            exact ih6 (i + 1) (cn + 1) (by omega) (by omega) (by rw [cntB_t (by simp [odF, c_18, c_32]), hq]) (by omega) _ _ hM hS _ (lv_sub hl [2, 3, 4, 5, 1, 0] rfl)
  exact K6 _ 0 0 (Nat.lt_succ_self _) (Nat.zero_le _) (rfl) (Nat.le_refl _) _ _ hM hS _ (lv_sub hl [2, 3, 4, 5, 1, 0] rfl)

set_option maxHeartbeats 4000000 in
set_option maxRecDepth 100000 in
theorem c_X7_firstFreeDay (l : Launch) (G : mq_G) (A : Nat → Prop) (f : mq_F) (ad : AD) (S : AT) (X : CX) (S2 : AT) (Y : MX) (O : OX) (T : Nat) (j k w : Nat) : Met l yX7_firstFreeDay wsX7_firstFreeDay ({ frames := 1, cells := 0, slots := 0, locals := 25 } : Room) (mq_Pc G A f (WR G f ad S X S2 Y O ∧ cOK S X T ∧ j < aL S ∧ k < aN S ∧ w ≤ 250) [.ref (ad 0 0 0), .ref (ad 5 j 0), .int (nI k), .int (nI w)]) (mq_Qi G A (fun r g => f = g ∧ r = nI (ffd (ffP S j k) (aN S) w))) 0 0 A := by
  refine Met.ofW (cc := cX7_firstFreeDay) (maxL := 6) (ret := (some .int)) (by decide) rfl ?_
  intro p e s m args below meth c s₁ B hml hv
  obtain ⟨rfl, ⟨hK, hZ, hM, hA⟩, hp⟩ := hv
  have hx := B.exec
  have hb := B.bytes
  have hr := B.returns
  have hts := atoms_spec (ws := wsX7_firstFreeDay) B.pre
  have hown : s.vm.findClass RX7 = some m.cls := findClass_of_methodNamed B.named
  have hlocks := B.notSynchronized
  have hS : va_S A s.heap s.heap [] := va_S.rf
  have hl := lv_entry ([.ref (ad 0 0 0), .ref (ad 5 j 0), .int (nI k), .int (nI w)]) (n := 6) (Nat.le_of_ble_eq_true rfl)
  rw [lg_entry_eq]
  generalize (lg_sl ([.ref (ad 0 0 0), .ref (ad 5 j 0), .int (nI k), .int (nI w)]) ++ List.replicate (6 - (lg_sl ([.ref (ad 0 0 0), .ref (ad 5 j 0), .int (nI k), .int (nI w)])).length) Slot.unset).toArray = ls at hl ⊢
  have hl : lv_has ls 6 [(0, .ref (ad 0 0 0)), (1, .ref (ad 5 j 0)), (2, .int (nI k)), (3, .int (nI w))] := hl
  have w0 := hts (.fieldLink RX7 32 "Tutorlight" "skillCount" "I") (List.mem_of_getElem? (i := 1) rfl)
  have nX7 : ∀ w ∈ wsX70, w ∈ wsX7_firstFreeDay := fun _ h => List.mem_cons_of_mem _ (List.mem_append_left _ (List.mem_append_left _ (List.mem_append_right _ h)))
  obtain ⟨hR, hO, hj, hk, hw⟩ := hp
  obtain ⟨⟨hn, hl4, hd2, hT⟩, hsk, hma, hdc, hle, hxb⟩ := id hO
  have y0_19 := hR.1 _ _ _ _ (t0)
  refine lv_iload_n hx hb dX7_firstFreeDay_0 rfl (lv_at hl 3 rfl) ?_
  refine lv_istore (lv' := [(4, .int (nI w)), (0, .ref (ad 0 0 0)), (1, .ref (ad 5 j 0)), (2, .int (nI k)), (3, .int (nI w))]) hx hb dX7_firstFreeDay_1 hl (by decide) rfl (fun ls hl => ?_)
  refine lv_iconst (v := 0) hx hb dX7_firstFreeDay_3 (by decide) ?_
  refine lv_istore (lv' := [(5, .int 0), (4, .int (nI w)), (0, .ref (ad 0 0 0)), (1, .ref (ad 5 j 0)), (2, .int (nI k)), (3, .int (nI w))]) hx hb dX7_firstFreeDay_4 hl (by decide) rfl (fun ls hl => ?_)
  have K6 : ∀ (n9 : Nat) (i v : Nat), (aN S - i) < n9 → (i ≤ aN S) → (ffd (ffP S j k) (aN S) w = ffd (ffP S j k) (aN S - i) v) → (v = w + i) → ∀ (H : Heap) (locs : List Loc), mq_W G.1 A f H → va_S A s.heap H locs → ∀ (ls : Array Slot), lv_has ls 6 [(0, .ref (ad 0 0 0)), (1, .ref (ad 5 j 0)), (2, .int (nI k)), (4, .int (nI v)), (5, .int (nI i))] → W p l e (headSpec wsX7_firstFreeDay ({ frames := 1, cells := 0, slots := 0, locals := 25 } : Room)).room s m ([.ref (ad 0 0 0), .ref (ad 5 j 0), .int (nI k), .int (nI w)] : List Value).toArray below meth c H locs 0 0 (MQ below (mq_Qi G A (fun r g => f = g ∧ r = nI (ffd (ffP S j k) (aN S) w))) ([.ref (ad 0 0 0), .ref (ad 5 j 0), .int (nI k), .int (nI w)] : List Value).toArray s 0 0 A) (F0 m 6 ls []) := by
    intro n9
    induction n9 with
    | zero => intro i v hn9; exact absurd hn9 (Nat.not_lt_zero _)
    | succ n9 ih6 =>
      intro i v hn9 hi hq hv H locs hM hS ls hl
      refine lv_iload hx hb dX7_firstFreeDay_6 (lv_at hl 4 rfl) ?_
      refine lv_aload_n hx hb dX7_firstFreeDay_8 rfl (lv_at hl 0 rfl) ?_
      refine mq_get (ci := 12) (v := .int (nI (aN S))) (C := RX7) (T := TX7) (N := 6) hx hb hts nX7 hown hK hM y0_19 rfl 3 (by decide) w0 (fun _ h9 => h9) rfl dX7_firstFreeDay_9 ?_
      refine lv_icmp_ge (tgt := 36) hx hb dX7_firstFreeDay_12 (by decide) (fun c_12 => ?_) (fun c_12 => ?_)
      · replace c_12 : nI (aN S) ≤ nI i := c_12
        rw [nI_leI (by omega) (by omega)] at c_12
        refine lv_iload hx hb dX7_firstFreeDay_36 (lv_at hl 3 rfl) ?_
        exact mq_iret (v := nI v) hx hb hr hlocks hM hS (⟨rfl, by rw [hq, show aN S - i = 0 by omega]; rfl⟩) dX7_firstFreeDay_38
      · replace c_12 : ¬ nI (aN S) ≤ nI i := c_12
        rw [nI_leI (by omega) (by omega)] at c_12
        refine lv_aload_n hx hb dX7_firstFreeDay_15 rfl (lv_at hl 0 rfl) ?_
        refine lv_aload_n hx hb dX7_firstFreeDay_16 rfl (lv_at hl 1 rfl) ?_
        refine lv_iload_n hx hb dX7_firstFreeDay_17 rfl (lv_at hl 2 rfl) ?_
        refine lv_iload hx hb dX7_firstFreeDay_18 (lv_at hl 3 rfl) ?_
        rw [← du_S v]
        refine mq_calli (va_runV (As := [.ref (ad 5 j 0), .int (nI k), .int (du (v + 1))]) (rest := []) ⟨hx, hb, hml, hown, hts⟩ (c_X7_othersDueOn l G A f ad S X S2 Y O T j k (v + 1)) (cwV 3 hts gX7_firstFreeDay_X7_othersDueOn rfl rfl rfl (by decide +kernel) ⟨Nat.le_of_ble_eq_true rfl, Nat.le_of_ble_eq_true rfl⟩) (mq_preV hK hZ hS hA hM (q := (RX7, TX7, 6)) y0_19 rfl (⟨hR, hO, hj, hk, by omega⟩) _) rfl rfl hl.1 rfl (lv_room (Nat.le_of_ble_eq_true rfl)) dX7_firstFreeDay_20 ⟨Nat.le_of_ble_eq_true rfl, Nat.le_of_ble_eq_true rfl⟩) hS (fun r20 g20 H locs p20 hM hS => ?_)
        refine W.widen (k := 0) (n := 0) (Nat.le_of_ble_eq_true rfl) (Nat.le_of_ble_eq_true rfl) ?_
        obtain ⟨rfl, rfl⟩ := p20
        have ho := cntB_le (odF S j k (v + 1)) (aN S)
        refine lv_iconst (v := 2) hx hb dX7_firstFreeDay_23 (by decide) ?_
        refine lv_icmp_lt (tgt := 36) hx hb dX7_firstFreeDay_24 (by decide) (fun c_24 => ?_) (fun c_24 => ?_)
        · replace c_24 : nI (odu S j k (v + 1)) < nI 2 := c_24
          rw [nI_ltI (by first | omega | (unfold odu; omega)) (by first | omega | (unfold odu; omega))] at c_24
          refine lv_iload hx hb dX7_firstFreeDay_36 (lv_at hl 3 rfl) ?_
          exact mq_iret (v := nI v) hx hb hr hlocks hM hS (⟨rfl, by rw [hq, ffd_f (by simp [ffP]; omega)]⟩) dX7_firstFreeDay_38
        · replace c_24 : ¬ nI (odu S j k (v + 1)) < nI 2 := c_24
          rw [nI_ltI (by first | omega | (unfold odu; omega)) (by first | omega | (unfold odu; omega))] at c_24
          refine lv_iinc (v := nI (v + 1)) (lv' := [(4, .int (nI (v + 1))), (0, .ref (ad 0 0 0)), (1, .ref (ad 5 j 0)), (2, .int (nI k)), (5, .int (nI i))]) hx hb dX7_firstFreeDay_27 hl (k := 3) rfl (nI_add _ _) (by decide) rfl (fun ls hl => ?_)
          refine lv_iinc (v := nI (i + 1)) (lv' := [(5, .int (nI (i + 1))), (4, .int (nI (v + 1))), (0, .ref (ad 0 0 0)), (1, .ref (ad 5 j 0)), (2, .int (nI k))]) hx hb dX7_firstFreeDay_30 hl (k := 4) rfl (nI_add _ _) (by decide) rfl (fun ls hl => ?_)
          refine lv_goto (tgt := 6) hx hb dX7_firstFreeDay_33 (by decide) ?_
          exact ih6 (i + 1) (v + 1) (by omega) (by omega) (by rw [hq, show aN S - i = aN S - (i + 1) + 1 by omega, ffd_t (by simp [ffP]; omega)]) (by omega) _ _ hM hS _ (lv_sub hl [2, 3, 4, 1, 0] rfl)
  exact K6 _ 0 w (Nat.lt_succ_self _) (Nat.zero_le _) (rfl) (rfl) _ _ hM hS _ (lv_sub hl [2, 3, 4, 1, 0] rfl)

set_option maxHeartbeats 4000000 in
set_option maxRecDepth 100000 in
theorem c_X7_reviewsAheadOf (l : Launch) (G : mq_G) (A : Nat → Prop) (f : mq_F) (ad : AD) (S : AT) (X : CX) (S2 : AT) (Y : MX) (O : OX) (T : Nat) (j k : Nat) : Met l yX7_reviewsAheadOf wsX7_reviewsAheadOf ({ frames := 2, cells := 0, slots := 0, locals := 41 } : Room) (mq_Pc G A f (WR G f ad S X S2 Y O ∧ cOK S X T ∧ j < aL S ∧ k < aN S) [.ref (ad 0 0 0), .ref (ad 5 j 0), .int (nI k)]) (mq_Qi G A (fun r g => f = g ∧ r = nI (rah S j k))) 0 0 A := by
  refine Met.ofW (cc := cX7_reviewsAheadOf) (maxL := 8) (ret := (some .int)) (by decide) rfl ?_
  intro p e s m args below meth c s₁ B hml hv
  obtain ⟨rfl, ⟨hK, hZ, hM, hA⟩, hp⟩ := hv
  have hx := B.exec
  have hb := B.bytes
  have hr := B.returns
  have hts := atoms_spec (ws := wsX7_reviewsAheadOf) B.pre
  have hown : s.vm.findClass RX7 = some m.cls := findClass_of_methodNamed B.named
  have hlocks := B.notSynchronized
  have hS : va_S A s.heap s.heap [] := va_S.rf
  have hl := lv_entry ([.ref (ad 0 0 0), .ref (ad 5 j 0), .int (nI k)]) (n := 8) (Nat.le_of_ble_eq_true rfl)
  rw [lg_entry_eq]
  generalize (lg_sl ([.ref (ad 0 0 0), .ref (ad 5 j 0), .int (nI k)]) ++ List.replicate (8 - (lg_sl ([.ref (ad 0 0 0), .ref (ad 5 j 0), .int (nI k)])).length) Slot.unset).toArray = ls at hl ⊢
  have hl : lv_has ls 8 [(0, .ref (ad 0 0 0)), (1, .ref (ad 5 j 0)), (2, .int (nI k))] := hl
  have w0 := hts (.fieldLink RX7 80 "Tutorlight$Learner" "masteries" "[LTutorlight$Mastery;") (List.mem_of_getElem? (i := 1) rfl)
  have w1 := hts (.fieldLink RX7 134 "Tutorlight$Mastery" "dueDay" "I") (List.mem_of_getElem? (i := 2) rfl)
  have w2 := hts (.fieldLink RX7 32 "Tutorlight" "skillCount" "I") (List.mem_of_getElem? (i := 3) rfl)
  have w3 := hts (.fieldLink RX7 117 "Tutorlight" "day" "I") (List.mem_of_getElem? (i := 4) rfl)
  have nX3 : ∀ w ∈ wsX30, w ∈ wsX7_reviewsAheadOf := fun _ h => List.mem_cons_of_mem _ (List.mem_append_left _ (List.mem_append_left _ (List.mem_append_right _ h)))
  have nX4 : ∀ w ∈ wsX40, w ∈ wsX7_reviewsAheadOf := fun _ h => List.mem_cons_of_mem _ (List.mem_append_left _ (List.mem_append_right _ h))
  have nX7 : ∀ w ∈ wsX70, w ∈ wsX7_reviewsAheadOf := fun _ h => List.mem_cons_of_mem _ (List.mem_append_right _ h)
  obtain ⟨hR, hO, hj, hk⟩ := hp
  obtain ⟨⟨hn, hl4, hd2, hT⟩, hsk, hma, hdc, hle, hxb⟩ := id hO
  have y0_21 := hR.1 _ _ _ _ (t0)
  have y5_22 := hR.1 _ _ _ _ (t5 (j := j) hj)
  have y6_23 := hR.1 _ _ _ _ (t6 (j := j) hj)
  have y7_24 := hR.1 _ _ _ _ (t7 (j := j) (k := k) hj (by omega))
  refine lv_aload_n hx hb dX7_reviewsAheadOf_0 rfl (lv_at hl 1 rfl) ?_
  refine mq_get (ci := 8) (v := .ref (ad 6 j 0)) (C := RX3) (T := TX3) (N := 5) hx hb hts nX3 hown hK hM y5_22 rfl 0 (by decide) w0 (fun _ h9 => h9) rfl dX7_reviewsAheadOf_1 ?_
  refine lv_iload_n hx hb dX7_reviewsAheadOf_4 rfl (lv_at hl 2 rfl) ?_
  refine mq_aald (t0 := 5) (v := .ref (ad 7 j k)) hx hb hK hM rfl y6_23 (vp_in_nI (by omega) (by omega)) (by rw [show (nI k : Int32).toNatClampNeg = k from nI_clamp (by omega)]; exact congrArg va_rf (rf_at (by omega))) dX7_reviewsAheadOf_5 ?_
  refine mq_get (ci := 9) (v := .int (du (mDu (aM S j k)))) (C := RX4) (T := TX4) (N := 7) hx hb hts nX4 hown hK hM y7_24 rfl 2 (by decide) w1 (fun _ h9 => h9) rfl dX7_reviewsAheadOf_6 ?_
  refine lv_istore_n (lv' := [(3, .int (du (mDu (aM S j k)))), (0, .ref (ad 0 0 0)), (1, .ref (ad 5 j 0)), (2, .int (nI k))]) hx hb dX7_reviewsAheadOf_9 rfl hl (by decide) rfl (fun ls hl => ?_)
  refine lv_iconst (v := 0) hx hb dX7_reviewsAheadOf_10 (by decide) ?_
  refine lv_istore (lv' := [(4, .int 0), (3, .int (du (mDu (aM S j k)))), (0, .ref (ad 0 0 0)), (1, .ref (ad 5 j 0)), (2, .int (nI k))]) hx hb dX7_reviewsAheadOf_11 hl (by decide) rfl (fun ls hl => ?_)
  refine lv_iconst (v := 0) hx hb dX7_reviewsAheadOf_13 (by decide) ?_
  refine lv_istore (lv' := [(5, .int 0), (4, .int 0), (3, .int (du (mDu (aM S j k)))), (0, .ref (ad 0 0 0)), (1, .ref (ad 5 j 0)), (2, .int (nI k))]) hx hb dX7_reviewsAheadOf_14 hl (by decide) rfl (fun ls hl => ?_)
  have K16 : ∀ (n9 : Nat) (i cn : Nat), (aN S - i) < n9 → (i ≤ aN S) → (cn = cntB (raF S j k) i) → (cn ≤ i) → ∀ (H : Heap) (locs : List Loc), mq_W G.1 A f H → va_S A s.heap H locs → ∀ (ls : Array Slot), lv_has ls 8 [(0, .ref (ad 0 0 0)), (1, .ref (ad 5 j 0)), (2, .int (nI k)), (3, .int (du (mDu (aM S j k)))), (4, .int (nI cn)), (5, .int (nI i))] → W p l e (headSpec wsX7_reviewsAheadOf ({ frames := 2, cells := 0, slots := 0, locals := 41 } : Room)).room s m ([.ref (ad 0 0 0), .ref (ad 5 j 0), .int (nI k)] : List Value).toArray below meth c H locs 0 0 (MQ below (mq_Qi G A (fun r g => f = g ∧ r = nI (rah S j k))) ([.ref (ad 0 0 0), .ref (ad 5 j 0), .int (nI k)] : List Value).toArray s 0 0 A) (F0 m 16 ls []) := by
    intro n9
    induction n9 with
    | zero => intro i cn hn9; exact absurd hn9 (Nat.not_lt_zero _)
    | succ n9 ih16 =>
      intro i cn hn9 hi hq hc H locs hM hS ls hl
      have mk5 := (hma j k hj (by omega)).2.2.2.2.1
      refine lv_iload hx hb dX7_reviewsAheadOf_16 (lv_at hl 5 rfl) ?_
      refine lv_aload_n hx hb dX7_reviewsAheadOf_18 rfl (lv_at hl 0 rfl) ?_
      refine mq_get (ci := 12) (v := .int (nI (aN S))) (C := RX7) (T := TX7) (N := 6) hx hb hts nX7 hown hK hM y0_21 rfl 3 (by decide) w2 (fun _ h9 => h9) rfl dX7_reviewsAheadOf_19 ?_
      refine lv_icmp_ge (tgt := 91) hx hb dX7_reviewsAheadOf_22 (by decide) (fun c_22 => ?_) (fun c_22 => ?_)
      · replace c_22 : nI (aN S) ≤ nI i := c_22
        rw [nI_leI (by omega) (by omega)] at c_22
        refine lv_iload hx hb dX7_reviewsAheadOf_91 (lv_at hl 4 rfl) ?_
        exact mq_iret (v := nI cn) hx hb hr hlocks hM hS (⟨rfl, by rw [hq, rah, show i = aN S by omega]⟩) dX7_reviewsAheadOf_93
      · replace c_22 : ¬ nI (aN S) ≤ nI i := c_22
        rw [nI_leI (by omega) (by omega)] at c_22
        obtain ⟨m1, m2, m3, m4, m5, m6, m7, m8⟩ := hma j i hj (by omega)
        have y7_20 := hR.1 _ _ _ _ (t7 (j := j) (k := i) hj (by omega))
        refine lv_aload_n hx hb dX7_reviewsAheadOf_25 rfl (lv_at hl 1 rfl) ?_
        refine mq_get (ci := 8) (v := .ref (ad 6 j 0)) (C := RX3) (T := TX3) (N := 5) hx hb hts nX3 hown hK hM y5_22 rfl 0 (by decide) w0 (fun _ h9 => h9) rfl dX7_reviewsAheadOf_26 ?_
        refine lv_iload hx hb dX7_reviewsAheadOf_29 (lv_at hl 5 rfl) ?_
        refine mq_aald (t0 := 5) (v := .ref (ad 7 j i)) hx hb hK hM rfl y6_23 (vp_in_nI (by omega) (by omega)) (by rw [show (nI i : Int32).toNatClampNeg = i from nI_clamp (by omega)]; exact congrArg va_rf (rf_at (by omega))) dX7_reviewsAheadOf_31 ?_
        refine lv_astore (lv' := [(6, .ref (ad 7 j i)), (0, .ref (ad 0 0 0)), (1, .ref (ad 5 j 0)), (2, .int (nI k)), (3, .int (du (mDu (aM S j k)))), (4, .int (nI cn)), (5, .int (nI i))]) hx hb dX7_reviewsAheadOf_32 hl (by decide) rfl (fun ls hl => ?_)
        refine lv_aload hx hb dX7_reviewsAheadOf_34 (lv_at hl 0 rfl) ?_
        refine mq_get (ci := 9) (v := .int (du (mDu (aM S j i)))) (C := RX4) (T := TX4) (N := 7) hx hb hts nX4 hown hK hM y7_20 rfl 2 (by decide) w1 (fun _ h9 => h9) rfl dX7_reviewsAheadOf_36 ?_
        refine lv_iload_n hx hb dX7_reviewsAheadOf_39 rfl (lv_at hl 4 rfl) ?_
        refine lv_icmp_lt (tgt := 58) hx hb dX7_reviewsAheadOf_40 (by decide) (fun c_40 => ?_) (fun c_40 => ?_)
        · replace c_40 : du (mDu (aM S j i)) < du (mDu (aM S j k)) := c_40
          rw [du_lt (by omega) (by omega)] at c_40
          refine lv_iconst (v := 1) hx hb dX7_reviewsAheadOf_58 (by decide) ?_
          refine lv_goto (tgt := 63) hx hb dX7_reviewsAheadOf_59 (by decide) ?_
          refine lv_istore (lv' := [(7, .int 1), (6, .ref (ad 7 j i)), (0, .ref (ad 0 0 0)), (1, .ref (ad 5 j 0)), (2, .int (nI k)), (3, .int (du (mDu (aM S j k)))), (4, .int (nI cn)), (5, .int (nI i))]) hx hb dX7_reviewsAheadOf_63 hl (by decide) rfl (fun ls hl => ?_)
          refine lv_aload hx hb dX7_reviewsAheadOf_65 (lv_at hl 1 rfl) ?_
          refine lv_aload_n hx hb dX7_reviewsAheadOf_67 rfl (lv_at hl 2 rfl) ?_
          refine mq_get (ci := 12) (v := .int (nI (aD S))) (C := RX7) (T := TX7) (N := 6) hx hb hts nX7 hown hK hM y0_21 rfl 5 (by decide) w3 (fun _ h9 => h9) rfl dX7_reviewsAheadOf_68 ?_
          refine mq_calli (va_runV (As := [.int (nI (aD S))]) (rest := []) ⟨hx, hb, hml, hown, hts⟩ (c_X4_isDueBy l G A f (ad 7 j i) (mOd (aM S j i)) (mDu (aM S j i)) (mTo (aM S j i)) (mRo (aM S j i)) (mOp (aM S j i)) (mAn (aM S j i)) (ad 8 j i) (aD S)) (cwV 1 hts gX7_reviewsAheadOf_X4_isDueBy rfl rfl rfl (by decide +kernel) ⟨Nat.le_of_ble_eq_true rfl, Nat.le_of_ble_eq_true rfl⟩) (mq_preV hK hZ hS hA hM (q := (RX4, TX4, 7)) y7_20 rfl (⟨y7_20, by omega, by omega⟩) _) rfl rfl hl.1 rfl (lv_room (Nat.le_of_ble_eq_true rfl)) dX7_reviewsAheadOf_71 ⟨Nat.le_of_ble_eq_true rfl, Nat.le_of_ble_eq_true rfl⟩) hS (fun r71 g71 H locs p71 hM hS => ?_)
          refine W.widen (k := 0) (n := 0) (Nat.le_of_ble_eq_true rfl) (Nat.le_of_ble_eq_true rfl) ?_
          obtain ⟨rfl, rfl⟩ := p71
          refine lv_if_eq (tgt := 85) hx hb dX7_reviewsAheadOf_74 (by decide) (fun c_74 => ?_) (fun c_74 => ?_)
          · replace c_74 : zb (dueB S j i) = 0 := c_74
            rw [zb_0] at c_74
            refine lv_iinc (v := nI (i + 1)) (lv' := [(5, .int (nI (i + 1))), (7, .int 1), (6, .ref (ad 7 j i)), (0, .ref (ad 0 0 0)), (1, .ref (ad 5 j 0)), (2, .int (nI k)), (3, .int (du (mDu (aM S j k)))), (4, .int (nI cn))]) hx hb dX7_reviewsAheadOf_85 hl (k := 7) rfl (nI_add _ _) (by decide) rfl (fun ls hl => ?_)
            refine lv_goto (tgt := 16) hx hb dX7_reviewsAheadOf_88 (by decide) ?_
            exact ih16 (i + 1) cn (by omega) (by omega) (by rw [cntB_f (by unfold raF; rw [c_74]; rfl), hq]) (by omega) _ _ hM hS _ (lv_sub hl [3, 4, 5, 6, 7, 0] rfl)
          · replace c_74 : ¬ zb (dueB S j i) = 0 := c_74
            rw [zb_n0] at c_74
            refine lv_iload hx hb dX7_reviewsAheadOf_77 (lv_at hl 0 rfl) ?_
            refine lv_if_eq (tgt := 85) hx hb dX7_reviewsAheadOf_79 (by decide) (fun c_79 => absurd c_79 (by decide)) (fun c_79 => ?_)
            refine lv_iinc (v := nI (cn + 1)) (lv' := [(4, .int (nI (cn + 1))), (7, .int 1), (6, .ref (ad 7 j i)), (0, .ref (ad 0 0 0)), (1, .ref (ad 5 j 0)), (2, .int (nI k)), (3, .int (du (mDu (aM S j k)))), (5, .int (nI i))]) hx hb dX7_reviewsAheadOf_82 hl (k := 6) rfl (nI_add _ _) (by decide) rfl (fun ls hl => ?_)
            refine lv_iinc (v := nI (i + 1)) (lv' := [(5, .int (nI (i + 1))), (4, .int (nI (cn + 1))), (7, .int 1), (6, .ref (ad 7 j i)), (0, .ref (ad 0 0 0)), (1, .ref (ad 5 j 0)), (2, .int (nI k)), (3, .int (du (mDu (aM S j k))))]) hx hb dX7_reviewsAheadOf_85 hl (k := 7) rfl (nI_add _ _) (by decide) rfl (fun ls hl => ?_)
            refine lv_goto (tgt := 16) hx hb dX7_reviewsAheadOf_88 (by decide) ?_
            exact ih16 (i + 1) (cn + 1) (by omega) (by omega) (by rw [cntB_t (by unfold raF; rw [c_74]; simp only [Bool.true_and, decide_eq_true_eq]; omega), hq]) (by omega) _ _ hM hS _ (lv_sub hl [4, 5, 6, 7, 1, 0] rfl)
        · replace c_40 : ¬ du (mDu (aM S j i)) < du (mDu (aM S j k)) := c_40
          rw [du_lt (by omega) (by omega)] at c_40
          refine lv_aload hx hb dX7_reviewsAheadOf_43 (lv_at hl 0 rfl) ?_
          refine mq_get (ci := 9) (v := .int (du (mDu (aM S j i)))) (C := RX4) (T := TX4) (N := 7) hx hb hts nX4 hown hK hM y7_20 rfl 2 (by decide) w1 (fun _ h9 => h9) rfl dX7_reviewsAheadOf_45 ?_
          refine lv_iload_n hx hb dX7_reviewsAheadOf_48 rfl (lv_at hl 4 rfl) ?_
          refine lv_icmp_ne (tgt := 62) hx hb dX7_reviewsAheadOf_49 (by decide) (fun c_49 => ?_) (fun c_49 => ?_)
          · replace c_49 : ¬ du (mDu (aM S j i)) = du (mDu (aM S j k)) := c_49
            rw [du_eq (by omega) (by omega)] at c_49
            refine lv_iconst (v := 0) hx hb dX7_reviewsAheadOf_62 (by decide) ?_
            refine lv_istore (lv' := [(7, .int 0), (6, .ref (ad 7 j i)), (0, .ref (ad 0 0 0)), (1, .ref (ad 5 j 0)), (2, .int (nI k)), (3, .int (du (mDu (aM S j k)))), (4, .int (nI cn)), (5, .int (nI i))]) hx hb dX7_reviewsAheadOf_63 hl (by decide) rfl (fun ls hl => ?_)
            refine lv_aload hx hb dX7_reviewsAheadOf_65 (lv_at hl 1 rfl) ?_
            refine lv_aload_n hx hb dX7_reviewsAheadOf_67 rfl (lv_at hl 2 rfl) ?_
            refine mq_get (ci := 12) (v := .int (nI (aD S))) (C := RX7) (T := TX7) (N := 6) hx hb hts nX7 hown hK hM y0_21 rfl 5 (by decide) w3 (fun _ h9 => h9) rfl dX7_reviewsAheadOf_68 ?_
            refine mq_calli (va_runV (As := [.int (nI (aD S))]) (rest := []) ⟨hx, hb, hml, hown, hts⟩ (c_X4_isDueBy l G A f (ad 7 j i) (mOd (aM S j i)) (mDu (aM S j i)) (mTo (aM S j i)) (mRo (aM S j i)) (mOp (aM S j i)) (mAn (aM S j i)) (ad 8 j i) (aD S)) (cwV 1 hts gX7_reviewsAheadOf_X4_isDueBy rfl rfl rfl (by decide +kernel) ⟨Nat.le_of_ble_eq_true rfl, Nat.le_of_ble_eq_true rfl⟩) (mq_preV hK hZ hS hA hM (q := (RX4, TX4, 7)) y7_20 rfl (⟨y7_20, by omega, by omega⟩) _) rfl rfl hl.1 rfl (lv_room (Nat.le_of_ble_eq_true rfl)) dX7_reviewsAheadOf_71 ⟨Nat.le_of_ble_eq_true rfl, Nat.le_of_ble_eq_true rfl⟩) hS (fun r71 g71 H locs p71 hM hS => ?_)
            refine W.widen (k := 0) (n := 0) (Nat.le_of_ble_eq_true rfl) (Nat.le_of_ble_eq_true rfl) ?_
            obtain ⟨rfl, rfl⟩ := p71
            refine lv_if_eq (tgt := 85) hx hb dX7_reviewsAheadOf_74 (by decide) (fun c_74 => ?_) (fun c_74 => ?_)
            · replace c_74 : zb (dueB S j i) = 0 := c_74
              rw [zb_0] at c_74
              refine lv_iinc (v := nI (i + 1)) (lv' := [(5, .int (nI (i + 1))), (7, .int 0), (6, .ref (ad 7 j i)), (0, .ref (ad 0 0 0)), (1, .ref (ad 5 j 0)), (2, .int (nI k)), (3, .int (du (mDu (aM S j k)))), (4, .int (nI cn))]) hx hb dX7_reviewsAheadOf_85 hl (k := 7) rfl (nI_add _ _) (by decide) rfl (fun ls hl => ?_)
              refine lv_goto (tgt := 16) hx hb dX7_reviewsAheadOf_88 (by decide) ?_
              exact ih16 (i + 1) cn (by omega) (by omega) (by rw [cntB_f (by unfold raF; rw [c_74]; rfl), hq]) (by omega) _ _ hM hS _ (lv_sub hl [3, 4, 5, 6, 7, 0] rfl)
            · replace c_74 : ¬ zb (dueB S j i) = 0 := c_74
              rw [zb_n0] at c_74
              refine lv_iload hx hb dX7_reviewsAheadOf_77 (lv_at hl 0 rfl) ?_
              refine lv_if_eq (tgt := 85) hx hb dX7_reviewsAheadOf_79 (by decide) (fun c_79 => ?_) (fun c_79 => absurd c_79 (by decide))
              refine lv_iinc (v := nI (i + 1)) (lv' := [(5, .int (nI (i + 1))), (7, .int 0), (6, .ref (ad 7 j i)), (0, .ref (ad 0 0 0)), (1, .ref (ad 5 j 0)), (2, .int (nI k)), (3, .int (du (mDu (aM S j k)))), (4, .int (nI cn))]) hx hb dX7_reviewsAheadOf_85 hl (k := 7) rfl (nI_add _ _) (by decide) rfl (fun ls hl => ?_)
              refine lv_goto (tgt := 16) hx hb dX7_reviewsAheadOf_88 (by decide) ?_
              exact ih16 (i + 1) cn (by omega) (by omega) (by rw [cntB_f (by unfold raF; rw [c_74]; simp only [Bool.true_and, decide_eq_false_iff_not]; omega), hq]) (by omega) _ _ hM hS _ (lv_sub hl [3, 4, 5, 6, 7, 0] rfl)
          · replace c_49 : du (mDu (aM S j i)) = du (mDu (aM S j k)) := c_49
            rw [du_eq (by omega) (by omega)] at c_49
            refine lv_iload hx hb dX7_reviewsAheadOf_52 (lv_at hl 6 rfl) ?_
            refine lv_iload_n hx hb dX7_reviewsAheadOf_54 rfl (lv_at hl 3 rfl) ?_
            refine lv_icmp_ge (tgt := 62) hx hb dX7_reviewsAheadOf_55 (by decide) (fun c_55 => ?_) (fun c_55 => ?_)
            · replace c_55 : nI k ≤ nI i := c_55
              rw [nI_leI (by omega) (by omega)] at c_55
              refine lv_iconst (v := 0) hx hb dX7_reviewsAheadOf_62 (by decide) ?_
              refine lv_istore (lv' := [(7, .int 0), (6, .ref (ad 7 j i)), (0, .ref (ad 0 0 0)), (1, .ref (ad 5 j 0)), (2, .int (nI k)), (3, .int (du (mDu (aM S j k)))), (4, .int (nI cn)), (5, .int (nI i))]) hx hb dX7_reviewsAheadOf_63 hl (by decide) rfl (fun ls hl => ?_)
              refine lv_aload hx hb dX7_reviewsAheadOf_65 (lv_at hl 1 rfl) ?_
              refine lv_aload_n hx hb dX7_reviewsAheadOf_67 rfl (lv_at hl 2 rfl) ?_
              refine mq_get (ci := 12) (v := .int (nI (aD S))) (C := RX7) (T := TX7) (N := 6) hx hb hts nX7 hown hK hM y0_21 rfl 5 (by decide) w3 (fun _ h9 => h9) rfl dX7_reviewsAheadOf_68 ?_
              refine mq_calli (va_runV (As := [.int (nI (aD S))]) (rest := []) ⟨hx, hb, hml, hown, hts⟩ (c_X4_isDueBy l G A f (ad 7 j i) (mOd (aM S j i)) (mDu (aM S j i)) (mTo (aM S j i)) (mRo (aM S j i)) (mOp (aM S j i)) (mAn (aM S j i)) (ad 8 j i) (aD S)) (cwV 1 hts gX7_reviewsAheadOf_X4_isDueBy rfl rfl rfl (by decide +kernel) ⟨Nat.le_of_ble_eq_true rfl, Nat.le_of_ble_eq_true rfl⟩) (mq_preV hK hZ hS hA hM (q := (RX4, TX4, 7)) y7_20 rfl (⟨y7_20, by omega, by omega⟩) _) rfl rfl hl.1 rfl (lv_room (Nat.le_of_ble_eq_true rfl)) dX7_reviewsAheadOf_71 ⟨Nat.le_of_ble_eq_true rfl, Nat.le_of_ble_eq_true rfl⟩) hS (fun r71 g71 H locs p71 hM hS => ?_)
              refine W.widen (k := 0) (n := 0) (Nat.le_of_ble_eq_true rfl) (Nat.le_of_ble_eq_true rfl) ?_
              obtain ⟨rfl, rfl⟩ := p71
              refine lv_if_eq (tgt := 85) hx hb dX7_reviewsAheadOf_74 (by decide) (fun c_74 => ?_) (fun c_74 => ?_)
              · replace c_74 : zb (dueB S j i) = 0 := c_74
                rw [zb_0] at c_74
                refine lv_iinc (v := nI (i + 1)) (lv' := [(5, .int (nI (i + 1))), (7, .int 0), (6, .ref (ad 7 j i)), (0, .ref (ad 0 0 0)), (1, .ref (ad 5 j 0)), (2, .int (nI k)), (3, .int (du (mDu (aM S j k)))), (4, .int (nI cn))]) hx hb dX7_reviewsAheadOf_85 hl (k := 7) rfl (nI_add _ _) (by decide) rfl (fun ls hl => ?_)
                refine lv_goto (tgt := 16) hx hb dX7_reviewsAheadOf_88 (by decide) ?_
                exact ih16 (i + 1) cn (by omega) (by omega) (by rw [cntB_f (by unfold raF; rw [c_74]; rfl), hq]) (by omega) _ _ hM hS _ (lv_sub hl [3, 4, 5, 6, 7, 0] rfl)
              · replace c_74 : ¬ zb (dueB S j i) = 0 := c_74
                rw [zb_n0] at c_74
                refine lv_iload hx hb dX7_reviewsAheadOf_77 (lv_at hl 0 rfl) ?_
                refine lv_if_eq (tgt := 85) hx hb dX7_reviewsAheadOf_79 (by decide) (fun c_79 => ?_) (fun c_79 => absurd c_79 (by decide))
                refine lv_iinc (v := nI (i + 1)) (lv' := [(5, .int (nI (i + 1))), (7, .int 0), (6, .ref (ad 7 j i)), (0, .ref (ad 0 0 0)), (1, .ref (ad 5 j 0)), (2, .int (nI k)), (3, .int (du (mDu (aM S j k)))), (4, .int (nI cn))]) hx hb dX7_reviewsAheadOf_85 hl (k := 7) rfl (nI_add _ _) (by decide) rfl (fun ls hl => ?_)
                refine lv_goto (tgt := 16) hx hb dX7_reviewsAheadOf_88 (by decide) ?_
                exact ih16 (i + 1) cn (by omega) (by omega) (by rw [cntB_f (by unfold raF; rw [c_74]; simp only [Bool.true_and, decide_eq_false_iff_not]; omega), hq]) (by omega) _ _ hM hS _ (lv_sub hl [3, 4, 5, 6, 7, 0] rfl)
            · replace c_55 : ¬ nI k ≤ nI i := c_55
              rw [nI_leI (by omega) (by omega)] at c_55
              refine lv_iconst (v := 1) hx hb dX7_reviewsAheadOf_58 (by decide) ?_
              refine lv_goto (tgt := 63) hx hb dX7_reviewsAheadOf_59 (by decide) ?_
              refine lv_istore (lv' := [(7, .int 1), (6, .ref (ad 7 j i)), (0, .ref (ad 0 0 0)), (1, .ref (ad 5 j 0)), (2, .int (nI k)), (3, .int (du (mDu (aM S j k)))), (4, .int (nI cn)), (5, .int (nI i))]) hx hb dX7_reviewsAheadOf_63 hl (by decide) rfl (fun ls hl => ?_)
              refine lv_aload hx hb dX7_reviewsAheadOf_65 (lv_at hl 1 rfl) ?_
              refine lv_aload_n hx hb dX7_reviewsAheadOf_67 rfl (lv_at hl 2 rfl) ?_
              refine mq_get (ci := 12) (v := .int (nI (aD S))) (C := RX7) (T := TX7) (N := 6) hx hb hts nX7 hown hK hM y0_21 rfl 5 (by decide) w3 (fun _ h9 => h9) rfl dX7_reviewsAheadOf_68 ?_
              refine mq_calli (va_runV (As := [.int (nI (aD S))]) (rest := []) ⟨hx, hb, hml, hown, hts⟩ (c_X4_isDueBy l G A f (ad 7 j i) (mOd (aM S j i)) (mDu (aM S j i)) (mTo (aM S j i)) (mRo (aM S j i)) (mOp (aM S j i)) (mAn (aM S j i)) (ad 8 j i) (aD S)) (cwV 1 hts gX7_reviewsAheadOf_X4_isDueBy rfl rfl rfl (by decide +kernel) ⟨Nat.le_of_ble_eq_true rfl, Nat.le_of_ble_eq_true rfl⟩) (mq_preV hK hZ hS hA hM (q := (RX4, TX4, 7)) y7_20 rfl (⟨y7_20, by omega, by omega⟩) _) rfl rfl hl.1 rfl (lv_room (Nat.le_of_ble_eq_true rfl)) dX7_reviewsAheadOf_71 ⟨Nat.le_of_ble_eq_true rfl, Nat.le_of_ble_eq_true rfl⟩) hS (fun r71 g71 H locs p71 hM hS => ?_)
              refine W.widen (k := 0) (n := 0) (Nat.le_of_ble_eq_true rfl) (Nat.le_of_ble_eq_true rfl) ?_
              obtain ⟨rfl, rfl⟩ := p71
              refine lv_if_eq (tgt := 85) hx hb dX7_reviewsAheadOf_74 (by decide) (fun c_74 => ?_) (fun c_74 => ?_)
              · replace c_74 : zb (dueB S j i) = 0 := c_74
                rw [zb_0] at c_74
                refine lv_iinc (v := nI (i + 1)) (lv' := [(5, .int (nI (i + 1))), (7, .int 1), (6, .ref (ad 7 j i)), (0, .ref (ad 0 0 0)), (1, .ref (ad 5 j 0)), (2, .int (nI k)), (3, .int (du (mDu (aM S j k)))), (4, .int (nI cn))]) hx hb dX7_reviewsAheadOf_85 hl (k := 7) rfl (nI_add _ _) (by decide) rfl (fun ls hl => ?_)
                refine lv_goto (tgt := 16) hx hb dX7_reviewsAheadOf_88 (by decide) ?_
                exact ih16 (i + 1) cn (by omega) (by omega) (by rw [cntB_f (by unfold raF; rw [c_74]; rfl), hq]) (by omega) _ _ hM hS _ (lv_sub hl [3, 4, 5, 6, 7, 0] rfl)
              · replace c_74 : ¬ zb (dueB S j i) = 0 := c_74
                rw [zb_n0] at c_74
                refine lv_iload hx hb dX7_reviewsAheadOf_77 (lv_at hl 0 rfl) ?_
                refine lv_if_eq (tgt := 85) hx hb dX7_reviewsAheadOf_79 (by decide) (fun c_79 => absurd c_79 (by decide)) (fun c_79 => ?_)
                refine lv_iinc (v := nI (cn + 1)) (lv' := [(4, .int (nI (cn + 1))), (7, .int 1), (6, .ref (ad 7 j i)), (0, .ref (ad 0 0 0)), (1, .ref (ad 5 j 0)), (2, .int (nI k)), (3, .int (du (mDu (aM S j k)))), (5, .int (nI i))]) hx hb dX7_reviewsAheadOf_82 hl (k := 6) rfl (nI_add _ _) (by decide) rfl (fun ls hl => ?_)
                refine lv_iinc (v := nI (i + 1)) (lv' := [(5, .int (nI (i + 1))), (4, .int (nI (cn + 1))), (7, .int 1), (6, .ref (ad 7 j i)), (0, .ref (ad 0 0 0)), (1, .ref (ad 5 j 0)), (2, .int (nI k)), (3, .int (du (mDu (aM S j k))))]) hx hb dX7_reviewsAheadOf_85 hl (k := 7) rfl (nI_add _ _) (by decide) rfl (fun ls hl => ?_)
                refine lv_goto (tgt := 16) hx hb dX7_reviewsAheadOf_88 (by decide) ?_
                exact ih16 (i + 1) (cn + 1) (by omega) (by omega) (by rw [cntB_t (by unfold raF; rw [c_74]; simp only [Bool.true_and, decide_eq_true_eq]; omega), hq]) (by omega) _ _ hM hS _ (lv_sub hl [4, 5, 6, 7, 1, 0] rfl)
  exact K16 _ 0 0 (Nat.lt_succ_self _) (Nat.zero_le _) (rfl) (Nat.le_refl _) _ _ hM hS _ (lv_sub hl [3, 4, 5, 2, 1, 0] rfl)

set_option maxHeartbeats 4000000 in
set_option maxRecDepth 100000 in
theorem c_X7_firstOpenReview (l : Launch) (G : mq_G) (A : Nat → Prop) (f : mq_F) (ad : AD) (S : AT) (X : CX) (S2 : AT) (Y : MX) (O : OX) (T : Nat) (j : Nat) : Met l yX7_firstOpenReview wsX7_firstOpenReview ({ frames := 2, cells := 0, slots := 0, locals := 44 } : Room) (mq_Pc G A f (WR G f ad S X S2 Y O ∧ cOK S X T ∧ j < aL S) [.ref (ad 0 0 0), .ref (ad 5 j 0)]) (mq_Qi G A (fun r g => f = g ∧ r = du (frL S j (aN S)))) 0 0 A := by
  refine Met.ofW (cc := cX7_firstOpenReview) (maxL := 7) (ret := (some .int)) (by decide) rfl ?_
  intro p e s m args below meth c s₁ B hml hv
  obtain ⟨rfl, ⟨hK, hZ, hM, hA⟩, hp⟩ := hv
  have hx := B.exec
  have hb := B.bytes
  have hr := B.returns
  have hts := atoms_spec (ws := wsX7_firstOpenReview) B.pre
  have hown : s.vm.findClass RX7 = some m.cls := findClass_of_methodNamed B.named
  have hlocks := B.notSynchronized
  have hS : va_S A s.heap s.heap [] := va_S.rf
  have hl := lv_entry ([.ref (ad 0 0 0), .ref (ad 5 j 0)]) (n := 7) (Nat.le_of_ble_eq_true rfl)
  rw [lg_entry_eq]
  generalize (lg_sl ([.ref (ad 0 0 0), .ref (ad 5 j 0)]) ++ List.replicate (7 - (lg_sl ([.ref (ad 0 0 0), .ref (ad 5 j 0)])).length) Slot.unset).toArray = ls at hl ⊢
  have hl : lv_has ls 7 [(0, .ref (ad 0 0 0)), (1, .ref (ad 5 j 0))] := hl
  have w0 := hts (.fieldLink RX7 32 "Tutorlight" "skillCount" "I") (List.mem_of_getElem? (i := 1) rfl)
  have w1 := hts (.fieldLink RX7 80 "Tutorlight$Learner" "masteries" "[LTutorlight$Mastery;") (List.mem_of_getElem? (i := 2) rfl)
  have w2 := hts (.fieldLink RX7 117 "Tutorlight" "day" "I") (List.mem_of_getElem? (i := 4) rfl)
  have w3 := hts (.fieldLink RX7 134 "Tutorlight$Mastery" "dueDay" "I") (List.mem_of_getElem? (i := 3) rfl)
  have nX7 : ∀ w ∈ wsX70, w ∈ wsX7_firstOpenReview := fun _ h => List.mem_cons_of_mem _ (List.mem_append_left _ (List.mem_append_left _ (List.mem_append_left _ (List.mem_append_right _ h))))
  have nX3 : ∀ w ∈ wsX30, w ∈ wsX7_firstOpenReview := fun _ h => List.mem_cons_of_mem _ (List.mem_append_left _ (List.mem_append_left _ (List.mem_append_right _ h)))
  have nX4 : ∀ w ∈ wsX40, w ∈ wsX7_firstOpenReview := fun _ h => List.mem_cons_of_mem _ (List.mem_append_left _ (List.mem_append_right _ h))
  obtain ⟨hR, hO, hj⟩ := hp
  obtain ⟨⟨hn, hl4, hd2, hT⟩, hsk, hma, hdc, hle, hxb⟩ := id hO
  have y0_26 := hR.1 _ _ _ _ (t0)
  have y5_27 := hR.1 _ _ _ _ (t5 (j := j) hj)
  have y6_28 := hR.1 _ _ _ _ (t6 (j := j) hj)
  refine lv_iconst (v := (-1)) hx hb dX7_firstOpenReview_0 (by decide) ?_
  refine lv_istore_n (lv' := [(2, .int (-1)), (0, .ref (ad 0 0 0)), (1, .ref (ad 5 j 0))]) hx hb dX7_firstOpenReview_1 rfl hl (by decide) rfl (fun ls hl => ?_)
  refine lv_iconst (v := 0) hx hb dX7_firstOpenReview_2 (by decide) ?_
  refine lv_istore_n (lv' := [(3, .int 0), (2, .int (-1)), (0, .ref (ad 0 0 0)), (1, .ref (ad 5 j 0))]) hx hb dX7_firstOpenReview_3 rfl hl (by decide) rfl (fun ls hl => ?_)
  refine lv_iconst (v := 0) hx hb dX7_firstOpenReview_4 (by decide) ?_
  refine lv_istore (lv' := [(4, .int 0), (3, .int 0), (2, .int (-1)), (0, .ref (ad 0 0 0)), (1, .ref (ad 5 j 0))]) hx hb dX7_firstOpenReview_5 hl (by decide) rfl (fun ls hl => ?_)
  have K7 : ∀ (n9 : Nat) (i b : Nat) (fd : Int32), (aN S - i) < n9 → (i ≤ aN S) → (b = frL S j i) → (b ≤ i) → (b ≠ 0 → fd = du (mDu (aM S j (b - 1)))) → ∀ (H : Heap) (locs : List Loc), mq_W G.1 A f H → va_S A s.heap H locs → ∀ (ls : Array Slot), lv_has ls 7 [(0, .ref (ad 0 0 0)), (1, .ref (ad 5 j 0)), (2, .int (du b)), (3, .int fd), (4, .int (nI i))] → W p l e (headSpec wsX7_firstOpenReview ({ frames := 2, cells := 0, slots := 0, locals := 44 } : Room)).room s m ([.ref (ad 0 0 0), .ref (ad 5 j 0)] : List Value).toArray below meth c H locs 0 0 (MQ below (mq_Qi G A (fun r g => f = g ∧ r = du (frL S j (aN S)))) ([.ref (ad 0 0 0), .ref (ad 5 j 0)] : List Value).toArray s 0 0 A) (F0 m 7 ls []) := by
    intro n9
    induction n9 with
    | zero => intro i b fd hn9; exact absurd hn9 (Nat.not_lt_zero _)
    | succ n9 ih7 =>
      intro i b fd hn9 hi hq hb9 hfd H locs hM hS ls hl
      refine lv_iload hx hb dX7_firstOpenReview_7 (lv_at hl 4 rfl) ?_
      refine lv_aload_n hx hb dX7_firstOpenReview_9 rfl (lv_at hl 0 rfl) ?_
      refine mq_get (ci := 12) (v := .int (nI (aN S))) (C := RX7) (T := TX7) (N := 6) hx hb hts nX7 hown hK hM y0_26 rfl 3 (by decide) w0 (fun _ h9 => h9) rfl dX7_firstOpenReview_10 ?_
      refine lv_icmp_ge (tgt := 88) hx hb dX7_firstOpenReview_13 (by decide) (fun c_13 => ?_) (fun c_13 => ?_)
      · replace c_13 : nI (aN S) ≤ nI i := c_13
        rw [nI_leI (by omega) (by omega)] at c_13
        refine lv_iload_n hx hb dX7_firstOpenReview_88 rfl (lv_at hl 2 rfl) ?_
        exact mq_iret (v := du b) hx hb hr hlocks hM hS (⟨rfl, by rw [hq, show i = aN S by omega]⟩) dX7_firstOpenReview_89
      · replace c_13 : ¬ nI (aN S) ≤ nI i := c_13
        rw [nI_leI (by omega) (by omega)] at c_13
        obtain ⟨m1, m2, m3, m4, m5, m6, m7, m8⟩ := hma j i hj (by omega)
        have y7_25 := hR.1 _ _ _ _ (t7 (j := j) (k := i) hj (by omega))
        refine lv_aload_n hx hb dX7_firstOpenReview_16 rfl (lv_at hl 1 rfl) ?_
        refine mq_get (ci := 8) (v := .ref (ad 6 j 0)) (C := RX3) (T := TX3) (N := 5) hx hb hts nX3 hown hK hM y5_27 rfl 0 (by decide) w1 (fun _ h9 => h9) rfl dX7_firstOpenReview_17 ?_
        refine lv_iload hx hb dX7_firstOpenReview_20 (lv_at hl 4 rfl) ?_
        refine mq_aald (t0 := 5) (v := .ref (ad 7 j i)) hx hb hK hM rfl y6_28 (vp_in_nI (by omega) (by omega)) (by rw [show (nI i : Int32).toNatClampNeg = i from nI_clamp (by omega)]; exact congrArg va_rf (rf_at (by omega))) dX7_firstOpenReview_22 ?_
        refine lv_astore (lv' := [(5, .ref (ad 7 j i)), (0, .ref (ad 0 0 0)), (1, .ref (ad 5 j 0)), (2, .int (du b)), (3, .int fd), (4, .int (nI i))]) hx hb dX7_firstOpenReview_23 hl (by decide) rfl (fun ls hl => ?_)
        refine lv_iload_n hx hb dX7_firstOpenReview_25 rfl (lv_at hl 3 rfl) ?_
        refine lv_iconst (v := (-1)) hx hb dX7_firstOpenReview_26 (by decide) ?_
        refine lv_icmp_eq (tgt := 39) hx hb dX7_firstOpenReview_27 (by decide) (fun c_27 => ?_) (fun c_27 => ?_)
        · replace c_27 : du b = (-1) := c_27
          rw [du_m1 (by omega)] at c_27
          refine lv_iconst (v := 1) hx hb dX7_firstOpenReview_39 (by decide) ?_
          refine lv_goto (tgt := 44) hx hb dX7_firstOpenReview_40 (by decide) ?_
          refine lv_istore (lv' := [(6, .int 1), (5, .ref (ad 7 j i)), (0, .ref (ad 0 0 0)), (1, .ref (ad 5 j 0)), (2, .int (du b)), (3, .int fd), (4, .int (nI i))]) hx hb dX7_firstOpenReview_44 hl (by decide) rfl (fun ls hl => ?_)
          refine lv_aload hx hb dX7_firstOpenReview_46 (lv_at hl 1 rfl) ?_
          refine lv_aload_n hx hb dX7_firstOpenReview_48 rfl (lv_at hl 2 rfl) ?_
          refine mq_get (ci := 12) (v := .int (nI (aD S))) (C := RX7) (T := TX7) (N := 6) hx hb hts nX7 hown hK hM y0_26 rfl 5 (by decide) w2 (fun _ h9 => h9) rfl dX7_firstOpenReview_49 ?_
          refine mq_calli (va_runV (As := [.int (nI (aD S))]) (rest := []) ⟨hx, hb, hml, hown, hts⟩ (c_X4_isDueBy l G A f (ad 7 j i) (mOd (aM S j i)) (mDu (aM S j i)) (mTo (aM S j i)) (mRo (aM S j i)) (mOp (aM S j i)) (mAn (aM S j i)) (ad 8 j i) (aD S)) (cwV 1 hts gX7_firstOpenReview_X4_isDueBy rfl rfl rfl (by decide +kernel) ⟨Nat.le_of_ble_eq_true rfl, Nat.le_of_ble_eq_true rfl⟩) (mq_preV hK hZ hS hA hM (q := (RX4, TX4, 7)) y7_25 rfl (⟨y7_25, by omega, by omega⟩) _) rfl rfl hl.1 rfl (lv_room (Nat.le_of_ble_eq_true rfl)) dX7_firstOpenReview_52 ⟨Nat.le_of_ble_eq_true rfl, Nat.le_of_ble_eq_true rfl⟩) hS (fun r52 g52 H locs p52 hM hS => ?_)
          refine W.widen (k := 0) (n := 0) (Nat.le_of_ble_eq_true rfl) (Nat.le_of_ble_eq_true rfl) ?_
          obtain ⟨rfl, rfl⟩ := p52
          refine lv_if_eq (tgt := 82) hx hb dX7_firstOpenReview_55 (by decide) (fun c_55 => ?_) (fun c_55 => ?_)
          · replace c_55 : zb (dueB S j i) = 0 := c_55
            rw [zb_0] at c_55
            refine lv_iinc (v := nI (i + 1)) (lv' := [(4, .int (nI (i + 1))), (6, .int 1), (5, .ref (ad 7 j i)), (0, .ref (ad 0 0 0)), (1, .ref (ad 5 j 0)), (2, .int (du b)), (3, .int fd)]) hx hb dX7_firstOpenReview_82 hl (k := 6) rfl (nI_add _ _) (by decide) rfl (fun ls hl => ?_)
            refine lv_goto (tgt := 7) hx hb dX7_firstOpenReview_85 (by decide) ?_
            exact ih7 (i + 1) b fd (by omega) (by omega) (by show _ = frS _ _ _ _; rw [← hq]; unfold frS; rw [c_55]; rfl) (by omega) (hfd) _ _ hM hS _ (lv_sub hl [3, 4, 5, 6, 0] rfl)
          · replace c_55 : ¬ zb (dueB S j i) = 0 := c_55
            rw [zb_n0] at c_55
            refine lv_iload hx hb dX7_firstOpenReview_58 (lv_at hl 0 rfl) ?_
            refine lv_if_eq (tgt := 82) hx hb dX7_firstOpenReview_60 (by decide) (fun c_60 => absurd c_60 (by decide)) (fun c_60 => ?_)
            refine lv_aload_n hx hb dX7_firstOpenReview_63 rfl (lv_at hl 2 rfl) ?_
            refine lv_aload_n hx hb dX7_firstOpenReview_64 rfl (lv_at hl 3 rfl) ?_
            refine lv_iload hx hb dX7_firstOpenReview_65 (lv_at hl 6 rfl) ?_
            refine mq_calli (va_runV (As := [.ref (ad 5 j 0), .int (nI i)]) (rest := []) ⟨hx, hb, hml, hown, hts⟩ (c_X7_isOpenFor l G A f ad S X S2 Y O T j i) (cwV 2 hts gX7_firstOpenReview_X7_isOpenFor rfl rfl rfl (by decide +kernel) ⟨Nat.le_of_ble_eq_true rfl, Nat.le_of_ble_eq_true rfl⟩) (mq_preV hK hZ hS hA hM (q := (RX7, TX7, 6)) y0_26 rfl (⟨hR, hO, hj, by omega⟩) _) rfl rfl hl.1 rfl (lv_room (Nat.le_of_ble_eq_true rfl)) dX7_firstOpenReview_67 ⟨Nat.le_of_ble_eq_true rfl, Nat.le_of_ble_eq_true rfl⟩) hS (fun r67 g67 H locs p67 hM hS => ?_)
            refine W.widen (k := 0) (n := 0) (Nat.le_of_ble_eq_true rfl) (Nat.le_of_ble_eq_true rfl) ?_
            obtain ⟨rfl, rfl⟩ := p67
            refine lv_if_eq (tgt := 82) hx hb dX7_firstOpenReview_70 (by decide) (fun c_70 => ?_) (fun c_70 => ?_)
            · replace c_70 : zb (opn S j i) = 0 := c_70
              rw [zb_0] at c_70
              refine lv_iinc (v := nI (i + 1)) (lv' := [(4, .int (nI (i + 1))), (6, .int 1), (5, .ref (ad 7 j i)), (0, .ref (ad 0 0 0)), (1, .ref (ad 5 j 0)), (2, .int (du b)), (3, .int fd)]) hx hb dX7_firstOpenReview_82 hl (k := 6) rfl (nI_add _ _) (by decide) rfl (fun ls hl => ?_)
              refine lv_goto (tgt := 7) hx hb dX7_firstOpenReview_85 (by decide) ?_
              exact ih7 (i + 1) b fd (by omega) (by omega) (by show _ = frS _ _ _ _; rw [← hq]; unfold frS; rw [c_70, Bool.and_false, Bool.and_false]; rfl) (by omega) (hfd) _ _ hM hS _ (lv_sub hl [3, 4, 5, 6, 0] rfl)
            · replace c_70 : ¬ zb (opn S j i) = 0 := c_70
              rw [zb_n0] at c_70
              refine lv_iload hx hb dX7_firstOpenReview_73 (lv_at hl 6 rfl) ?_
              refine lv_istore_n (lv' := [(2, .int (nI i)), (6, .int 1), (5, .ref (ad 7 j i)), (0, .ref (ad 0 0 0)), (1, .ref (ad 5 j 0)), (3, .int fd), (4, .int (nI i))]) hx hb dX7_firstOpenReview_75 rfl hl (by decide) rfl (fun ls hl => ?_)
              refine lv_aload hx hb dX7_firstOpenReview_76 (lv_at hl 2 rfl) ?_
              refine mq_get (ci := 9) (v := .int (du (mDu (aM S j i)))) (C := RX4) (T := TX4) (N := 7) hx hb hts nX4 hown hK hM y7_25 rfl 2 (by decide) w3 (fun _ h9 => h9) rfl dX7_firstOpenReview_78 ?_
              refine lv_istore_n (lv' := [(3, .int (du (mDu (aM S j i)))), (2, .int (nI i)), (6, .int 1), (5, .ref (ad 7 j i)), (0, .ref (ad 0 0 0)), (1, .ref (ad 5 j 0)), (4, .int (nI i))]) hx hb dX7_firstOpenReview_81 rfl hl (by decide) rfl (fun ls hl => ?_)
              refine lv_iinc (v := nI (i + 1)) (lv' := [(4, .int (nI (i + 1))), (3, .int (du (mDu (aM S j i)))), (2, .int (nI i)), (6, .int 1), (5, .ref (ad 7 j i)), (0, .ref (ad 0 0 0)), (1, .ref (ad 5 j 0))]) hx hb dX7_firstOpenReview_82 hl (k := 6) rfl (nI_add _ _) (by decide) rfl (fun ls hl => ?_)
              refine lv_goto (tgt := 7) hx hb dX7_firstOpenReview_85 (by decide) ?_
              rw [← du_S i] at hl
              exact ih7 (i + 1) (i + 1) (du (mDu (aM S j i))) (by omega) (by omega) (by show _ = frS _ _ _ _; rw [← hq]; unfold frS; rw [c_55, c_70, decide_eq_true (by omega)]; rfl) (by omega) (fun _ => by rw [show i + 1 - 1 = i by omega]) _ _ hM hS _ (lv_sub hl [5, 6, 2, 1, 0] rfl)
        · replace c_27 : ¬ du b = (-1) := c_27
          rw [du_m1 (by omega)] at c_27
          obtain rfl := hfd c_27
          have mb5 := (hma j (b - 1) hj (by omega)).2.2.2.2.1
          refine lv_aload hx hb dX7_firstOpenReview_30 (lv_at hl 0 rfl) ?_
          refine mq_get (ci := 9) (v := .int (du (mDu (aM S j i)))) (C := RX4) (T := TX4) (N := 7) hx hb hts nX4 hown hK hM y7_25 rfl 2 (by decide) w3 (fun _ h9 => h9) rfl dX7_firstOpenReview_32 ?_
          refine lv_iload_n hx hb dX7_firstOpenReview_35 rfl (lv_at hl 4 rfl) ?_
          refine lv_icmp_ge (tgt := 43) hx hb dX7_firstOpenReview_36 (by decide) (fun c_36 => ?_) (fun c_36 => ?_)
          · replace c_36 : du (mDu (aM S j (b - 1))) ≤ du (mDu (aM S j i)) := c_36
            rw [du_le (by omega) (by omega)] at c_36
            refine lv_iconst (v := 0) hx hb dX7_firstOpenReview_43 (by decide) ?_
            refine lv_istore (lv' := [(6, .int 0), (5, .ref (ad 7 j i)), (0, .ref (ad 0 0 0)), (1, .ref (ad 5 j 0)), (2, .int (du b)), (3, .int (du (mDu (aM S j (b - 1))))), (4, .int (nI i))]) hx hb dX7_firstOpenReview_44 hl (by decide) rfl (fun ls hl => ?_)
            refine lv_aload hx hb dX7_firstOpenReview_46 (lv_at hl 1 rfl) ?_
            refine lv_aload_n hx hb dX7_firstOpenReview_48 rfl (lv_at hl 2 rfl) ?_
            refine mq_get (ci := 12) (v := .int (nI (aD S))) (C := RX7) (T := TX7) (N := 6) hx hb hts nX7 hown hK hM y0_26 rfl 5 (by decide) w2 (fun _ h9 => h9) rfl dX7_firstOpenReview_49 ?_
            refine mq_calli (va_runV (As := [.int (nI (aD S))]) (rest := []) ⟨hx, hb, hml, hown, hts⟩ (c_X4_isDueBy l G A f (ad 7 j i) (mOd (aM S j i)) (mDu (aM S j i)) (mTo (aM S j i)) (mRo (aM S j i)) (mOp (aM S j i)) (mAn (aM S j i)) (ad 8 j i) (aD S)) (cwV 1 hts gX7_firstOpenReview_X4_isDueBy rfl rfl rfl (by decide +kernel) ⟨Nat.le_of_ble_eq_true rfl, Nat.le_of_ble_eq_true rfl⟩) (mq_preV hK hZ hS hA hM (q := (RX4, TX4, 7)) y7_25 rfl (⟨y7_25, by omega, by omega⟩) _) rfl rfl hl.1 rfl (lv_room (Nat.le_of_ble_eq_true rfl)) dX7_firstOpenReview_52 ⟨Nat.le_of_ble_eq_true rfl, Nat.le_of_ble_eq_true rfl⟩) hS (fun r52 g52 H locs p52 hM hS => ?_)
            refine W.widen (k := 0) (n := 0) (Nat.le_of_ble_eq_true rfl) (Nat.le_of_ble_eq_true rfl) ?_
            obtain ⟨rfl, rfl⟩ := p52
            refine lv_if_eq (tgt := 82) hx hb dX7_firstOpenReview_55 (by decide) (fun c_55 => ?_) (fun c_55 => ?_)
            · replace c_55 : zb (dueB S j i) = 0 := c_55
              rw [zb_0] at c_55
              refine lv_iinc (v := nI (i + 1)) (lv' := [(4, .int (nI (i + 1))), (6, .int 0), (5, .ref (ad 7 j i)), (0, .ref (ad 0 0 0)), (1, .ref (ad 5 j 0)), (2, .int (du b)), (3, .int (du (mDu (aM S j (b - 1)))))]) hx hb dX7_firstOpenReview_82 hl (k := 6) rfl (nI_add _ _) (by decide) rfl (fun ls hl => ?_)
              refine lv_goto (tgt := 7) hx hb dX7_firstOpenReview_85 (by decide) ?_
              exact ih7 (i + 1) b (du (mDu (aM S j (b - 1)))) (by omega) (by omega) (by show _ = frS _ _ _ _; rw [← hq]; unfold frS; rw [c_55]; rfl) (by omega) (fun _ => rfl) _ _ hM hS _ (lv_sub hl [3, 4, 5, 6, 0] rfl)
            · replace c_55 : ¬ zb (dueB S j i) = 0 := c_55
              rw [zb_n0] at c_55
              refine lv_iload hx hb dX7_firstOpenReview_58 (lv_at hl 0 rfl) ?_
              refine lv_if_eq (tgt := 82) hx hb dX7_firstOpenReview_60 (by decide) (fun c_60 => ?_) (fun c_60 => absurd c_60 (by decide))
              refine lv_iinc (v := nI (i + 1)) (lv' := [(4, .int (nI (i + 1))), (6, .int 0), (5, .ref (ad 7 j i)), (0, .ref (ad 0 0 0)), (1, .ref (ad 5 j 0)), (2, .int (du b)), (3, .int (du (mDu (aM S j (b - 1)))))]) hx hb dX7_firstOpenReview_82 hl (k := 6) rfl (nI_add _ _) (by decide) rfl (fun ls hl => ?_)
              refine lv_goto (tgt := 7) hx hb dX7_firstOpenReview_85 (by decide) ?_
              exact ih7 (i + 1) b (du (mDu (aM S j (b - 1)))) (by omega) (by omega) (by show _ = frS _ _ _ _; rw [← hq]; unfold frS; rw [decide_eq_false (by omega), Bool.false_and, Bool.and_false]; rfl) (by omega) (fun _ => rfl) _ _ hM hS _ (lv_sub hl [3, 4, 5, 6, 0] rfl)
          · replace c_36 : ¬ du (mDu (aM S j (b - 1))) ≤ du (mDu (aM S j i)) := c_36
            rw [du_le (by omega) (by omega)] at c_36
            refine lv_iconst (v := 1) hx hb dX7_firstOpenReview_39 (by decide) ?_
            refine lv_goto (tgt := 44) hx hb dX7_firstOpenReview_40 (by decide) ?_
            refine lv_istore (lv' := [(6, .int 1), (5, .ref (ad 7 j i)), (0, .ref (ad 0 0 0)), (1, .ref (ad 5 j 0)), (2, .int (du b)), (3, .int (du (mDu (aM S j (b - 1))))), (4, .int (nI i))]) hx hb dX7_firstOpenReview_44 hl (by decide) rfl (fun ls hl => ?_)
            refine lv_aload hx hb dX7_firstOpenReview_46 (lv_at hl 1 rfl) ?_
            refine lv_aload_n hx hb dX7_firstOpenReview_48 rfl (lv_at hl 2 rfl) ?_
            refine mq_get (ci := 12) (v := .int (nI (aD S))) (C := RX7) (T := TX7) (N := 6) hx hb hts nX7 hown hK hM y0_26 rfl 5 (by decide) w2 (fun _ h9 => h9) rfl dX7_firstOpenReview_49 ?_
            refine mq_calli (va_runV (As := [.int (nI (aD S))]) (rest := []) ⟨hx, hb, hml, hown, hts⟩ (c_X4_isDueBy l G A f (ad 7 j i) (mOd (aM S j i)) (mDu (aM S j i)) (mTo (aM S j i)) (mRo (aM S j i)) (mOp (aM S j i)) (mAn (aM S j i)) (ad 8 j i) (aD S)) (cwV 1 hts gX7_firstOpenReview_X4_isDueBy rfl rfl rfl (by decide +kernel) ⟨Nat.le_of_ble_eq_true rfl, Nat.le_of_ble_eq_true rfl⟩) (mq_preV hK hZ hS hA hM (q := (RX4, TX4, 7)) y7_25 rfl (⟨y7_25, by omega, by omega⟩) _) rfl rfl hl.1 rfl (lv_room (Nat.le_of_ble_eq_true rfl)) dX7_firstOpenReview_52 ⟨Nat.le_of_ble_eq_true rfl, Nat.le_of_ble_eq_true rfl⟩) hS (fun r52 g52 H locs p52 hM hS => ?_)
            refine W.widen (k := 0) (n := 0) (Nat.le_of_ble_eq_true rfl) (Nat.le_of_ble_eq_true rfl) ?_
            obtain ⟨rfl, rfl⟩ := p52
            refine lv_if_eq (tgt := 82) hx hb dX7_firstOpenReview_55 (by decide) (fun c_55 => ?_) (fun c_55 => ?_)
            · replace c_55 : zb (dueB S j i) = 0 := c_55
              rw [zb_0] at c_55
              refine lv_iinc (v := nI (i + 1)) (lv' := [(4, .int (nI (i + 1))), (6, .int 1), (5, .ref (ad 7 j i)), (0, .ref (ad 0 0 0)), (1, .ref (ad 5 j 0)), (2, .int (du b)), (3, .int (du (mDu (aM S j (b - 1)))))]) hx hb dX7_firstOpenReview_82 hl (k := 6) rfl (nI_add _ _) (by decide) rfl (fun ls hl => ?_)
              refine lv_goto (tgt := 7) hx hb dX7_firstOpenReview_85 (by decide) ?_
              exact ih7 (i + 1) b (du (mDu (aM S j (b - 1)))) (by omega) (by omega) (by show _ = frS _ _ _ _; rw [← hq]; unfold frS; rw [c_55]; rfl) (by omega) (fun _ => rfl) _ _ hM hS _ (lv_sub hl [3, 4, 5, 6, 0] rfl)
            · replace c_55 : ¬ zb (dueB S j i) = 0 := c_55
              rw [zb_n0] at c_55
              refine lv_iload hx hb dX7_firstOpenReview_58 (lv_at hl 0 rfl) ?_
              refine lv_if_eq (tgt := 82) hx hb dX7_firstOpenReview_60 (by decide) (fun c_60 => absurd c_60 (by decide)) (fun c_60 => ?_)
              refine lv_aload_n hx hb dX7_firstOpenReview_63 rfl (lv_at hl 2 rfl) ?_
              refine lv_aload_n hx hb dX7_firstOpenReview_64 rfl (lv_at hl 3 rfl) ?_
              refine lv_iload hx hb dX7_firstOpenReview_65 (lv_at hl 6 rfl) ?_
              refine mq_calli (va_runV (As := [.ref (ad 5 j 0), .int (nI i)]) (rest := []) ⟨hx, hb, hml, hown, hts⟩ (c_X7_isOpenFor l G A f ad S X S2 Y O T j i) (cwV 2 hts gX7_firstOpenReview_X7_isOpenFor rfl rfl rfl (by decide +kernel) ⟨Nat.le_of_ble_eq_true rfl, Nat.le_of_ble_eq_true rfl⟩) (mq_preV hK hZ hS hA hM (q := (RX7, TX7, 6)) y0_26 rfl (⟨hR, hO, hj, by omega⟩) _) rfl rfl hl.1 rfl (lv_room (Nat.le_of_ble_eq_true rfl)) dX7_firstOpenReview_67 ⟨Nat.le_of_ble_eq_true rfl, Nat.le_of_ble_eq_true rfl⟩) hS (fun r67 g67 H locs p67 hM hS => ?_)
              refine W.widen (k := 0) (n := 0) (Nat.le_of_ble_eq_true rfl) (Nat.le_of_ble_eq_true rfl) ?_
              obtain ⟨rfl, rfl⟩ := p67
              refine lv_if_eq (tgt := 82) hx hb dX7_firstOpenReview_70 (by decide) (fun c_70 => ?_) (fun c_70 => ?_)
              · replace c_70 : zb (opn S j i) = 0 := c_70
                rw [zb_0] at c_70
                refine lv_iinc (v := nI (i + 1)) (lv' := [(4, .int (nI (i + 1))), (6, .int 1), (5, .ref (ad 7 j i)), (0, .ref (ad 0 0 0)), (1, .ref (ad 5 j 0)), (2, .int (du b)), (3, .int (du (mDu (aM S j (b - 1)))))]) hx hb dX7_firstOpenReview_82 hl (k := 6) rfl (nI_add _ _) (by decide) rfl (fun ls hl => ?_)
                refine lv_goto (tgt := 7) hx hb dX7_firstOpenReview_85 (by decide) ?_
                exact ih7 (i + 1) b (du (mDu (aM S j (b - 1)))) (by omega) (by omega) (by show _ = frS _ _ _ _; rw [← hq]; unfold frS; rw [c_70, Bool.and_false, Bool.and_false]; rfl) (by omega) (fun _ => rfl) _ _ hM hS _ (lv_sub hl [3, 4, 5, 6, 0] rfl)
              · replace c_70 : ¬ zb (opn S j i) = 0 := c_70
                rw [zb_n0] at c_70
                refine lv_iload hx hb dX7_firstOpenReview_73 (lv_at hl 6 rfl) ?_
                refine lv_istore_n (lv' := [(2, .int (nI i)), (6, .int 1), (5, .ref (ad 7 j i)), (0, .ref (ad 0 0 0)), (1, .ref (ad 5 j 0)), (3, .int (du (mDu (aM S j (b - 1))))), (4, .int (nI i))]) hx hb dX7_firstOpenReview_75 rfl hl (by decide) rfl (fun ls hl => ?_)
                refine lv_aload hx hb dX7_firstOpenReview_76 (lv_at hl 2 rfl) ?_
                refine mq_get (ci := 9) (v := .int (du (mDu (aM S j i)))) (C := RX4) (T := TX4) (N := 7) hx hb hts nX4 hown hK hM y7_25 rfl 2 (by decide) w3 (fun _ h9 => h9) rfl dX7_firstOpenReview_78 ?_
                refine lv_istore_n (lv' := [(3, .int (du (mDu (aM S j i)))), (2, .int (nI i)), (6, .int 1), (5, .ref (ad 7 j i)), (0, .ref (ad 0 0 0)), (1, .ref (ad 5 j 0)), (4, .int (nI i))]) hx hb dX7_firstOpenReview_81 rfl hl (by decide) rfl (fun ls hl => ?_)
                refine lv_iinc (v := nI (i + 1)) (lv' := [(4, .int (nI (i + 1))), (3, .int (du (mDu (aM S j i)))), (2, .int (nI i)), (6, .int 1), (5, .ref (ad 7 j i)), (0, .ref (ad 0 0 0)), (1, .ref (ad 5 j 0))]) hx hb dX7_firstOpenReview_82 hl (k := 6) rfl (nI_add _ _) (by decide) rfl (fun ls hl => ?_)
                refine lv_goto (tgt := 7) hx hb dX7_firstOpenReview_85 (by decide) ?_
                rw [← du_S i] at hl
                exact ih7 (i + 1) (i + 1) (du (mDu (aM S j i))) (by omega) (by omega) (by show _ = frS _ _ _ _; rw [← hq]; unfold frS; rw [c_55, c_70, decide_eq_true (by omega)]; rfl) (by omega) (fun _ => by rw [show i + 1 - 1 = i by omega]) _ _ hM hS _ (lv_sub hl [5, 6, 2, 1, 0] rfl)
  rw [show (-1 : Int32) = du 0 from rfl] at hl
  exact K7 _ 0 0 0 (Nat.lt_succ_self _) (Nat.zero_le _) (rfl) (Nat.le_refl _) (fun h => absurd rfl h) _ _ hM hS _ (lv_sub hl [3, 4, 2, 1, 0] rfl)

set_option maxHeartbeats 4000000 in
set_option maxRecDepth 100000 in
theorem c_X7_bestNewSkill (l : Launch) (G : mq_G) (A : Nat → Prop) (f : mq_F) (ad : AD) (S : AT) (X : CX) (S2 : AT) (Y : MX) (O : OX) (T : Nat) (j : Nat) : Met l yX7_bestNewSkill wsX7_bestNewSkill ({ frames := 2, cells := 0, slots := 0, locals := 44 } : Room) (mq_Pc G A f (WR G f ad S X S2 Y O ∧ cOK S X T ∧ j < aL S) [.ref (ad 0 0 0), .ref (ad 5 j 0)]) (mq_Qi G A (fun r g => f = g ∧ r = du (bnL S j (aN S)).1)) 0 0 A := by
  refine Met.ofW (cc := cX7_bestNewSkill) (maxL := 7) (ret := (some .int)) (by decide) rfl ?_
  intro p e s m args below meth c s₁ B hml hv
  obtain ⟨rfl, ⟨hK, hZ, hM, hA⟩, hp⟩ := hv
  have hx := B.exec
  have hb := B.bytes
  have hr := B.returns
  have hts := atoms_spec (ws := wsX7_bestNewSkill) B.pre
  have hown : s.vm.findClass RX7 = some m.cls := findClass_of_methodNamed B.named
  have hlocks := B.notSynchronized
  have hS : va_S A s.heap s.heap [] := va_S.rf
  have hl := lv_entry ([.ref (ad 0 0 0), .ref (ad 5 j 0)]) (n := 7) (Nat.le_of_ble_eq_true rfl)
  rw [lg_entry_eq]
  generalize (lg_sl ([.ref (ad 0 0 0), .ref (ad 5 j 0)]) ++ List.replicate (7 - (lg_sl ([.ref (ad 0 0 0), .ref (ad 5 j 0)])).length) Slot.unset).toArray = ls at hl ⊢
  have hl : lv_has ls 7 [(0, .ref (ad 0 0 0)), (1, .ref (ad 5 j 0))] := hl
  have w0 := hts (.fieldLink RX7 32 "Tutorlight" "skillCount" "I") (List.mem_of_getElem? (i := 1) rfl)
  have w1 := hts (.fieldLink RX7 80 "Tutorlight$Learner" "masteries" "[LTutorlight$Mastery;") (List.mem_of_getElem? (i := 2) rfl)
  have w2 := hts (.fieldLink RX7 96 "Tutorlight$Mastery" "odds" "I") (List.mem_of_getElem? (i := 3) rfl)
  have w3 := hts (.fieldLink RX7 11 "Tutorlight" "skills" "[LTutorlight$Skill;") (List.mem_of_getElem? (i := 4) rfl)
  have w4 := hts (.fieldLink RX7 280 "Tutorlight$Skill" "gain" "I") (List.mem_of_getElem? (i := 5) rfl)
  have nX7 : ∀ w ∈ wsX70, w ∈ wsX7_bestNewSkill := fun _ h => List.mem_cons_of_mem _ (List.mem_append_left _ (List.mem_append_left _ (List.mem_append_left _ (List.mem_append_right _ h))))
  have nX3 : ∀ w ∈ wsX30, w ∈ wsX7_bestNewSkill := fun _ h => List.mem_cons_of_mem _ (List.mem_append_left _ (List.mem_append_left _ (List.mem_append_right _ h)))
  have nX4 : ∀ w ∈ wsX40, w ∈ wsX7_bestNewSkill := fun _ h => List.mem_cons_of_mem _ (List.mem_append_left _ (List.mem_append_right _ h))
  have nX5 : ∀ w ∈ wsX50, w ∈ wsX7_bestNewSkill := fun _ h => List.mem_cons_of_mem _ (List.mem_append_right _ h)
  obtain ⟨hR, hO, hj⟩ := hp
  obtain ⟨⟨hn, hl4, hd2, hT⟩, hsk, hma, hdc, hle, hxb⟩ := id hO
  have y0_31 := hR.1 _ _ _ _ (t0)
  have y1_32 := hR.1 _ _ _ _ (t1)
  have y5_33 := hR.1 _ _ _ _ (t5 (j := j) hj)
  have y6_34 := hR.1 _ _ _ _ (t6 (j := j) hj)
  refine lv_iconst (v := (-1)) hx hb dX7_bestNewSkill_0 (by decide) ?_
  refine lv_istore_n (lv' := [(2, .int (-1)), (0, .ref (ad 0 0 0)), (1, .ref (ad 5 j 0))]) hx hb dX7_bestNewSkill_1 rfl hl (by decide) rfl (fun ls hl => ?_)
  refine lv_iconst (v := (-1)) hx hb dX7_bestNewSkill_2 (by decide) ?_
  refine lv_istore_n (lv' := [(3, .int (-1)), (2, .int (-1)), (0, .ref (ad 0 0 0)), (1, .ref (ad 5 j 0))]) hx hb dX7_bestNewSkill_3 rfl hl (by decide) rfl (fun ls hl => ?_)
  refine lv_iconst (v := 0) hx hb dX7_bestNewSkill_4 (by decide) ?_
  refine lv_istore (lv' := [(4, .int 0), (3, .int (-1)), (2, .int (-1)), (0, .ref (ad 0 0 0)), (1, .ref (ad 5 j 0))]) hx hb dX7_bestNewSkill_5 hl (by decide) rfl (fun ls hl => ?_)
  have K7 : ∀ (n9 : Nat) (i b q : Nat), (aN S - i) < n9 → (i ≤ aN S) → ((b, q) = bnL S j i) → (b ≤ i) → (q ≤ 500001) → ∀ (H : Heap) (locs : List Loc), mq_W G.1 A f H → va_S A s.heap H locs → ∀ (ls : Array Slot), lv_has ls 7 [(0, .ref (ad 0 0 0)), (1, .ref (ad 5 j 0)), (2, .int (du b)), (3, .int (du q)), (4, .int (nI i))] → W p l e (headSpec wsX7_bestNewSkill ({ frames := 2, cells := 0, slots := 0, locals := 44 } : Room)).room s m ([.ref (ad 0 0 0), .ref (ad 5 j 0)] : List Value).toArray below meth c H locs 0 0 (MQ below (mq_Qi G A (fun r g => f = g ∧ r = du (bnL S j (aN S)).1)) ([.ref (ad 0 0 0), .ref (ad 5 j 0)] : List Value).toArray s 0 0 A) (F0 m 7 ls []) := by
    intro n9
    induction n9 with
    | zero => intro i b q hn9; exact absurd hn9 (Nat.not_lt_zero _)
    | succ n9 ih7 =>
      intro i b q hn9 hi hq hb9 hq9 H locs hM hS ls hl
      refine lv_iload hx hb dX7_bestNewSkill_7 (lv_at hl 4 rfl) ?_
      refine lv_aload_n hx hb dX7_bestNewSkill_9 rfl (lv_at hl 0 rfl) ?_
      refine mq_get (ci := 12) (v := .int (nI (aN S))) (C := RX7) (T := TX7) (N := 6) hx hb hts nX7 hown hK hM y0_31 rfl 3 (by decide) w0 (fun _ h9 => h9) rfl dX7_bestNewSkill_10 ?_
      refine lv_icmp_ge (tgt := 83) hx hb dX7_bestNewSkill_13 (by decide) (fun c_13 => ?_) (fun c_13 => ?_)
      · replace c_13 : nI (aN S) ≤ nI i := c_13
        rw [nI_leI (by omega) (by omega)] at c_13
        refine lv_iload_n hx hb dX7_bestNewSkill_83 rfl (lv_at hl 2 rfl) ?_
        exact mq_iret (v := du b) hx hb hr hlocks hM hS (⟨rfl, by rw [show aN S = i by omega, ← hq]⟩) dX7_bestNewSkill_84
      · replace c_13 : ¬ nI (aN S) ≤ nI i := c_13
        rw [nI_leI (by omega) (by omega)] at c_13
        obtain ⟨m1, m2, m3, m4, m5, m6, m7, m8⟩ := hma j i hj (by omega)
        have k3 := (hsk i (by omega)).2.2.1
        have hpr : prd S j i ≤ 1000 * 500 := Nat.mul_le_mul (by omega) k3
        have y7_29 := hR.1 _ _ _ _ (t7 (j := j) (k := i) hj (by omega))
        have y4_30 := hR.1 _ _ _ _ (t4 (j := i) (by omega))
        refine lv_aload_n hx hb dX7_bestNewSkill_16 rfl (lv_at hl 1 rfl) ?_
        refine mq_get (ci := 8) (v := .ref (ad 6 j 0)) (C := RX3) (T := TX3) (N := 5) hx hb hts nX3 hown hK hM y5_33 rfl 0 (by decide) w1 (fun _ h9 => h9) rfl dX7_bestNewSkill_17 ?_
        refine lv_iload hx hb dX7_bestNewSkill_20 (lv_at hl 4 rfl) ?_
        refine mq_aald (t0 := 5) (v := .ref (ad 7 j i)) hx hb hK hM rfl y6_34 (vp_in_nI (by omega) (by omega)) (by rw [show (nI i : Int32).toNatClampNeg = i from nI_clamp (by omega)]; exact congrArg va_rf (rf_at (by omega))) dX7_bestNewSkill_22 ?_
        refine lv_astore (lv' := [(5, .ref (ad 7 j i)), (0, .ref (ad 0 0 0)), (1, .ref (ad 5 j 0)), (2, .int (du b)), (3, .int (du q)), (4, .int (nI i))]) hx hb dX7_bestNewSkill_23 hl (by decide) rfl (fun ls hl => ?_)
        refine lv_sipush (v := 1000) hx hb dX7_bestNewSkill_25 (by decide) ?_
        refine lv_aload hx hb dX7_bestNewSkill_28 (lv_at hl 0 rfl) ?_
        refine mq_get (ci := 9) (v := .int (nI (mOd (aM S j i)))) (C := RX4) (T := TX4) (N := 7) hx hb hts nX4 hown hK hM y7_29 rfl 0 (by decide) w2 (fun _ h9 => h9) rfl dX7_bestNewSkill_30 ?_
        refine lv_isub hx hb dX7_bestNewSkill_33 ?_
        rw [show 1000 - (nI (mOd (aM S j i))) = nI (1000 - (mOd (aM S j i))) from pk_sub (a := 1000) (b := mOd (aM S j i)) (by omega)]
        refine lv_aload_n hx hb dX7_bestNewSkill_34 rfl (lv_at hl 1 rfl) ?_
        refine mq_get (ci := 12) (v := .ref (ad 1 0 0)) (C := RX7) (T := TX7) (N := 6) hx hb hts nX7 hown hK hM y0_31 rfl 0 (by decide) w3 (fun _ h9 => h9) rfl dX7_bestNewSkill_35 ?_
        refine lv_iload hx hb dX7_bestNewSkill_38 (lv_at hl 5 rfl) ?_
        refine mq_aald (t0 := 6) (v := .ref (ad 4 i 0)) hx hb hK hM rfl y1_32 (vp_in_nI (by omega) (by omega)) (by rw [show (nI i : Int32).toNatClampNeg = i from nI_clamp (by omega)]; exact congrArg va_rf (rf_at (by omega))) dX7_bestNewSkill_40 ?_
        refine mq_get (ci := 10) (v := .int (nI ((aS S i).2.2.1))) (C := RX5) (T := TX5) (N := 4) hx hb hts nX5 hown hK hM y4_30 rfl 2 (by decide) w4 (fun _ h9 => h9) rfl dX7_bestNewSkill_41 ?_
        refine lv_imul hx hb dX7_bestNewSkill_44 ?_
        rw [show (nI (1000 - (mOd (aM S j i)))) * (nI ((aS S i).2.2.1)) = nI ((1000 - (mOd (aM S j i))) * ((aS S i).2.2.1)) from pk_mul _ _]
        rw [show (1000 - mOd (aM S j i)) * (aS S i).2.2.1 = prd S j i from rfl]
        refine lv_istore (lv' := [(6, .int (nI (prd S j i))), (5, .ref (ad 7 j i)), (0, .ref (ad 0 0 0)), (1, .ref (ad 5 j 0)), (2, .int (du b)), (3, .int (du q)), (4, .int (nI i))]) hx hb dX7_bestNewSkill_45 hl (by decide) rfl (fun ls hl => ?_)
        refine lv_aload hx hb dX7_bestNewSkill_47 (lv_at hl 1 rfl) ?_
        refine mq_calli (va_runV (As := []) (rest := []) ⟨hx, hb, hml, hown, hts⟩ (c_X4_wasAnswered l G A f (ad 7 j i) (mOd (aM S j i)) (mDu (aM S j i)) (mTo (aM S j i)) (mRo (aM S j i)) (mOp (aM S j i)) (mAn (aM S j i)) (ad 8 j i)) (cwV 0 hts gX7_bestNewSkill_X4_wasAnswered rfl rfl rfl (by decide +kernel) ⟨Nat.le_of_ble_eq_true rfl, Nat.le_of_ble_eq_true rfl⟩) (mq_preV hK hZ hS hA hM (q := (RX4, TX4, 7)) y7_29 rfl (⟨y7_29, by omega⟩) _) rfl rfl hl.1 rfl (lv_room (Nat.le_of_ble_eq_true rfl)) dX7_bestNewSkill_49 ⟨Nat.le_of_ble_eq_true rfl, Nat.le_of_ble_eq_true rfl⟩) hS (fun r49 g49 H locs p49 hM hS => ?_)
        refine W.widen (k := 0) (n := 0) (Nat.le_of_ble_eq_true rfl) (Nat.le_of_ble_eq_true rfl) ?_
        obtain ⟨rfl, rfl⟩ := p49
        refine lv_if_ne (tgt := 77) hx hb dX7_bestNewSkill_52 (by decide) (fun c_52 => ?_) (fun c_52 => ?_)
        · replace c_52 : ¬ zb (decide (mDu (aM S j i) ≠ 0)) = 0 := c_52
          rw [zb_n0] at c_52
          rw [decide_eq_true_eq] at c_52
          refine lv_iinc (v := nI (i + 1)) (lv' := [(4, .int (nI (i + 1))), (6, .int (nI (prd S j i))), (5, .ref (ad 7 j i)), (0, .ref (ad 0 0 0)), (1, .ref (ad 5 j 0)), (2, .int (du b)), (3, .int (du q))]) hx hb dX7_bestNewSkill_77 hl (k := 6) rfl (nI_add _ _) (by decide) rfl (fun ls hl => ?_)
          refine lv_goto (tgt := 7) hx hb dX7_bestNewSkill_80 (by decide) ?_
          exact ih7 (i + 1) b q (by omega) (by omega) (by show _ = bnS _ _ _ _; rw [← hq]; unfold bnS; rw [decide_eq_false c_52]; rfl) (by omega) (by omega) _ _ hM hS _ (lv_sub hl [3, 4, 5, 6, 0] rfl)
        · replace c_52 : zb (decide (mDu (aM S j i) ≠ 0)) = 0 := c_52
          rw [zb_0] at c_52
          rw [decide_eq_false_iff_not, Decidable.not_not] at c_52
          refine lv_iload hx hb dX7_bestNewSkill_55 (lv_at hl 0 rfl) ?_
          refine lv_iload_n hx hb dX7_bestNewSkill_57 rfl (lv_at hl 5 rfl) ?_
          refine lv_icmp_le (tgt := 77) hx hb dX7_bestNewSkill_58 (by decide) (fun c_58 => ?_) (fun c_58 => ?_)
          · replace c_58 : nI (prd S j i) ≤ du q := c_58
            rw [du_Nle (by omega) (by omega)] at c_58
            refine lv_iinc (v := nI (i + 1)) (lv' := [(4, .int (nI (i + 1))), (6, .int (nI (prd S j i))), (5, .ref (ad 7 j i)), (0, .ref (ad 0 0 0)), (1, .ref (ad 5 j 0)), (2, .int (du b)), (3, .int (du q))]) hx hb dX7_bestNewSkill_77 hl (k := 6) rfl (nI_add _ _) (by decide) rfl (fun ls hl => ?_)
            refine lv_goto (tgt := 7) hx hb dX7_bestNewSkill_80 (by decide) ?_
            exact ih7 (i + 1) b q (by omega) (by omega) (by show _ = bnS _ _ _ _; rw [← hq]; unfold bnS; rw [decide_eq_false (show ¬ (b, q).2 < prd S j i + 1 by show ¬ q < _; omega), Bool.false_and, Bool.and_false]; rfl) (by omega) (by omega) _ _ hM hS _ (lv_sub hl [3, 4, 5, 6, 0] rfl)
          · replace c_58 : ¬ nI (prd S j i) ≤ du q := c_58
            rw [du_Nle (by omega) (by omega)] at c_58
            refine lv_aload_n hx hb dX7_bestNewSkill_61 rfl (lv_at hl 2 rfl) ?_
            refine lv_aload_n hx hb dX7_bestNewSkill_62 rfl (lv_at hl 3 rfl) ?_
            refine lv_iload hx hb dX7_bestNewSkill_63 (lv_at hl 6 rfl) ?_
            refine mq_calli (va_runV (As := [.ref (ad 5 j 0), .int (nI i)]) (rest := []) ⟨hx, hb, hml, hown, hts⟩ (c_X7_isOpenFor l G A f ad S X S2 Y O T j i) (cwV 2 hts gX7_bestNewSkill_X7_isOpenFor rfl rfl rfl (by decide +kernel) ⟨Nat.le_of_ble_eq_true rfl, Nat.le_of_ble_eq_true rfl⟩) (mq_preV hK hZ hS hA hM (q := (RX7, TX7, 6)) y0_31 rfl (⟨hR, hO, hj, by omega⟩) _) rfl rfl hl.1 rfl (lv_room (Nat.le_of_ble_eq_true rfl)) dX7_bestNewSkill_65 ⟨Nat.le_of_ble_eq_true rfl, Nat.le_of_ble_eq_true rfl⟩) hS (fun r65 g65 H locs p65 hM hS => ?_)
            refine W.widen (k := 0) (n := 0) (Nat.le_of_ble_eq_true rfl) (Nat.le_of_ble_eq_true rfl) ?_
            obtain ⟨rfl, rfl⟩ := p65
            refine lv_if_eq (tgt := 77) hx hb dX7_bestNewSkill_68 (by decide) (fun c_68 => ?_) (fun c_68 => ?_)
            · replace c_68 : zb (opn S j i) = 0 := c_68
              rw [zb_0] at c_68
              refine lv_iinc (v := nI (i + 1)) (lv' := [(4, .int (nI (i + 1))), (6, .int (nI (prd S j i))), (5, .ref (ad 7 j i)), (0, .ref (ad 0 0 0)), (1, .ref (ad 5 j 0)), (2, .int (du b)), (3, .int (du q))]) hx hb dX7_bestNewSkill_77 hl (k := 6) rfl (nI_add _ _) (by decide) rfl (fun ls hl => ?_)
              refine lv_goto (tgt := 7) hx hb dX7_bestNewSkill_80 (by decide) ?_
              exact ih7 (i + 1) b q (by omega) (by omega) (by show _ = bnS _ _ _ _; rw [← hq]; unfold bnS; rw [c_68, Bool.and_false, Bool.and_false]; rfl) (by omega) (by omega) _ _ hM hS _ (lv_sub hl [3, 4, 5, 6, 0] rfl)
            · replace c_68 : ¬ zb (opn S j i) = 0 := c_68
              rw [zb_n0] at c_68
              refine lv_iload hx hb dX7_bestNewSkill_71 (lv_at hl 6 rfl) ?_
              refine lv_istore_n (lv' := [(2, .int (nI i)), (6, .int (nI (prd S j i))), (5, .ref (ad 7 j i)), (0, .ref (ad 0 0 0)), (1, .ref (ad 5 j 0)), (3, .int (du q)), (4, .int (nI i))]) hx hb dX7_bestNewSkill_73 rfl hl (by decide) rfl (fun ls hl => ?_)
              refine lv_iload hx hb dX7_bestNewSkill_74 (lv_at hl 1 rfl) ?_
              refine lv_istore_n (lv' := [(3, .int (nI (prd S j i))), (2, .int (nI i)), (6, .int (nI (prd S j i))), (5, .ref (ad 7 j i)), (0, .ref (ad 0 0 0)), (1, .ref (ad 5 j 0)), (4, .int (nI i))]) hx hb dX7_bestNewSkill_76 rfl hl (by decide) rfl (fun ls hl => ?_)
              refine lv_iinc (v := nI (i + 1)) (lv' := [(4, .int (nI (i + 1))), (3, .int (nI (prd S j i))), (2, .int (nI i)), (6, .int (nI (prd S j i))), (5, .ref (ad 7 j i)), (0, .ref (ad 0 0 0)), (1, .ref (ad 5 j 0))]) hx hb dX7_bestNewSkill_77 hl (k := 6) rfl (nI_add _ _) (by decide) rfl (fun ls hl => ?_)
              refine lv_goto (tgt := 7) hx hb dX7_bestNewSkill_80 (by decide) ?_
              rw [← du_S i, ← du_S (prd S j i)] at hl
              exact ih7 (i + 1) (i + 1) (prd S j i + 1) (by omega) (by omega) (by show _ = bnS _ _ _ _; rw [← hq]; unfold bnS; rw [c_68, decide_eq_true c_52, decide_eq_true (by show q < _; omega)]; rfl) (by omega) (by omega) _ _ hM hS _ (lv_sub hl [5, 6, 2, 1, 0] rfl)
  rw [show (-1 : Int32) = du 0 from rfl] at hl
  exact K7 _ 0 0 0 (Nat.lt_succ_self _) (Nat.zero_le _) (rfl) (Nat.le_refl _) (by omega) _ _ hM hS _ (lv_sub hl [3, 4, 2, 1, 0] rfl)
