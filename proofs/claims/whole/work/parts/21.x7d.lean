/-! THE CLASS: sums, soundness, needs, parts -/
theorem fb_rng (x : Int32) : -2147483648 ≤ x.toInt ∧ x.toInt < 2147483648 := by
  have h1 := Int32.le_toInt x
  have h2 := Int32.toInt_lt x
  omega
theorem fb_bmod {z : Int} (h1 : -2147483648 ≤ z) (h2 : z < 2147483648) : z.bmod (2 ^ 32) = z := by
  rw [Int.bmod_eq_of_le (by omega) (by omega)]
theorem fb_addI {x y : Int32} (h1 : -2147483648 ≤ x.toInt + y.toInt) (h2 : x.toInt + y.toInt < 2147483648) : (x + y).toInt = x.toInt + y.toInt := by
  rw [Int32.toInt_add, fb_bmod h1 h2]
theorem fb_subI {x y : Int32} (h1 : -2147483648 ≤ x.toInt - y.toInt) (h2 : x.toInt - y.toInt < 2147483648) : (x - y).toInt = x.toInt - y.toInt := by
  rw [Int32.toInt_sub, fb_bmod h1 h2]
theorem fb_mulI {x y : Int32} (h1 : -2147483648 ≤ x.toInt * y.toInt) (h2 : x.toInt * y.toInt < 2147483648) : (x * y).toInt = x.toInt * y.toInt := by
  rw [Int32.toInt_mul, fb_bmod h1 h2]
theorem fb_negI {x : Int32} (h : x.toInt ≠ -2147483648) : (-x).toInt = -x.toInt := by
  have := fb_rng x
  rw [Int32.toInt_neg, fb_bmod (by omega) (by omega)]
theorem fb_ofI {z : Int} (h1 : -2147483648 ≤ z) (h2 : z < 2147483648) : (Int32.ofInt z).toInt = z := by
  rw [Int32.toInt_ofInt, fb_bmod h1 h2]
theorem fb_asI (x : Int32) : Int32.ofInt x.toInt = x := Int32.ofInt_toInt x
theorem fb_rngL (x : Int64) : -9223372036854775808 ≤ x.toInt ∧ x.toInt < 9223372036854775808 := by
  have h1 := Int64.le_toInt x
  have h2 := Int64.toInt_lt x
  omega
theorem fb_bmodL {z : Int} (h1 : -9223372036854775808 ≤ z) (h2 : z < 9223372036854775808) : z.bmod (2 ^ 64) = z := by
  rw [Int.bmod_eq_of_le (by omega) (by omega)]
theorem fb_addL {x y : Int64} (h1 : -9223372036854775808 ≤ x.toInt + y.toInt) (h2 : x.toInt + y.toInt < 9223372036854775808) : (x + y).toInt = x.toInt + y.toInt := by
  rw [Int64.toInt_add, fb_bmodL h1 h2]
theorem fb_subL {x y : Int64} (h1 : -9223372036854775808 ≤ x.toInt - y.toInt) (h2 : x.toInt - y.toInt < 9223372036854775808) : (x - y).toInt = x.toInt - y.toInt := by
  rw [Int64.toInt_sub, fb_bmodL h1 h2]
theorem fb_mulL {x y : Int64} (h1 : -9223372036854775808 ≤ x.toInt * y.toInt) (h2 : x.toInt * y.toInt < 9223372036854775808) : (x * y).toInt = x.toInt * y.toInt := by
  rw [Int64.toInt_mul, fb_bmodL h1 h2]
/-! ===== cuts of what is narrow already ===== -/
theorem cnt_split (P : Nat → Bool) (k : Nat) : ∀ n, cntB (fun o => decide (o ≠ k) && P o) n + (if k < n ∧ P k = true then 1 else 0) = cntB P n
  | 0 => by simp [cntB]
  | n + 1 => by
    have ih := cnt_split P k n
    rw [cntB_S, cntB_S]
    by_cases hn : n = k
    · subst hn
      rw [if_neg (by simp)] at ih
      cases hP : P n <;> simp [hP] at ih ⊢ <;> omega
    · have : (k < n + 1 ∧ P k = true) ↔ (k < n ∧ P k = true) := by constructor <;> (rintro ⟨a, b⟩; exact ⟨by omega, b⟩)
      have e9 : (if k < n + 1 ∧ P k = true then 1 else 0 : Nat) = (if k < n ∧ P k = true then 1 else 0) := by
        by_cases h : k < n ∧ P k = true
        · rw [if_pos h, if_pos (this.mpr h)]
        · rw [if_neg h, if_neg (fun q => h (this.mp q))]
      rw [e9]
      cases hP : P n <;> simp [hP, hn] at ih ⊢ <;> omega
theorem odu_lt {S : AT} {j k d : Nat} (hk : k < aN S) (hd : mDu (aM S j k) = d) (h : cntB (fun o => decide (mDu (aM S j o) = d)) (aN S) ≤ 2) : odu S j k d < 2 := by
  have h1 := cnt_split (fun o => decide (mDu (aM S j o) = d)) k (aN S)
  rw [if_pos ⟨hk, by simp [hd]⟩] at h1
  have h2 : odu S j k d = cntB (fun o => decide (o ≠ k) && decide (mDu (aM S j o) = d)) (aN S) := by
    unfold odu odF
    congr 1
    funext o
    by_cases a : o = k <;> by_cases b : mDu (aM S j o) = d <;> simp [a, b]
  omega
theorem ex_solI {n : Nat} : (ex_sol n).toInt = ((n / 14 % 10 : Nat) : Int) - 4 := pk_sub_toInt (b := 4) (by omega) (by decide)
theorem eqOK_one {q : eqT} {x : Int32} (h : eqOK q x) (hx : -4 ≤ x.toInt ∧ x.toInt ≤ 5) : (!decide (q.1 = q.2.2.1) && decide ((q.1 - q.2.2.1).toInt64 * x.toInt64 = (q.2.2.2 - q.2.1).toInt64)) = true := by
  obtain ⟨hb, hne, he⟩ := h
  have ha := hb q.1 (by simp)
  have hb2 := hb q.2.1 (by simp)
  have hc := hb q.2.2.1 (by simp)
  have hd := hb q.2.2.2 (by simp)
  have e1 : (q.1 - q.2.2.1).toInt = q.1.toInt - q.2.2.1.toInt := fb_subI (by omega) (by omega)
  have e2 : (q.2.2.2 - q.2.1).toInt = q.2.2.2.toInt - q.2.1.toInt := fb_subI (by omega) (by omega)
  have h1 : ¬ q.1 = q.2.2.1 := fun w => hne (by rw [w])
  have h2 : (q.1 - q.2.2.1).toInt64 * x.toInt64 = (q.2.2.2 - q.2.1).toInt64 := by
    apply Int64.toInt_inj.mp
    rw [fb_mulL, Int32.toInt_toInt64, Int32.toInt_toInt64, Int32.toInt_toInt64, e1, e2, he]
    · rw [Int32.toInt_toInt64, Int32.toInt_toInt64, e1, he]; omega
    · rw [Int32.toInt_toInt64, Int32.toInt_toInt64, e1, he]; omega
  rw [decide_eq_true h2, decide_eq_false h1]; rfl
theorem char4 {k : Int32} (h1 : ¬ k < 97) (h2 : k ≤ 100) : k = 97 ∨ k = 98 ∨ k = 99 ∨ k = 100 := by
  rw [Int32.lt_iff_toInt_lt, show (97 : Int32).toInt = 97 from rfl] at h1
  rw [Int32.le_iff_toInt_le, show (100 : Int32).toInt = 100 from rfl] at h2
  rw [i32_eqI, i32_eqI k 98, i32_eqI k 99, i32_eqI k 100, show (97 : Int32).toInt = 97 from rfl, show (98 : Int32).toInt = 98 from rfl, show (99 : Int32).toInt = 99 from rfl, show (100 : Int32).toInt = 100 from rfl]
  omega
abbrev spMean (S : AT) (i : Int32) : Nat × UInt64 := spK S i (fun k => if aL S = 0 then (2, 0) else (0, mnF S k)) 0
theorem knI_le (S : AT) (j : Nat) (n : Nat) : cntB (fun i => decide (700 ≤ mOd (aM S j i))) n ≤ n := cntB_le _ n
theorem prd_le {a b x y : Nat} (h1 : a ≤ x) (h2 : b ≤ y) : a * b ≤ x * y := Nat.mul_le_mul h1 h2

set_option maxHeartbeats 4000000 in
set_option maxRecDepth 100000 in
theorem c_X7_areOddsSound (l : Launch) (G : mq_G) (A : Nat → Prop) (f : mq_F) (ad : AD) (S : AT) (X : CX) (S2 : AT) (Y : MX) (O : OX) (T : Nat) (j : Nat) : Met l yX7_areOddsSound wsX7_areOddsSound ({ frames := 2, cells := 0, slots := 0, locals := 50 } : Room) (mq_Pc G A f (WR G f ad S X S2 Y O ∧ cOK S X T ∧ j < aL S) [.ref (ad 0 0 0), .ref (ad 5 j 0)]) (mq_Qi G A (fun r g => f = g ∧ r = 1)) 0 0 A := by
  refine Met.ofW (cc := cX7_areOddsSound) (maxL := 4) (ret := (some .boolean)) (by decide) rfl ?_
  intro p e s m args below meth c s₁ B hml hv
  obtain ⟨rfl, ⟨hK, hZ, hM, hA⟩, hp⟩ := hv
  have hx := B.exec
  have hb := B.bytes
  have hr := B.returns
  have hts := atoms_spec (ws := wsX7_areOddsSound) B.pre
  have hown : s.vm.findClass RX7 = some m.cls := findClass_of_methodNamed B.named
  have hlocks := B.notSynchronized
  have hS : va_S A s.heap s.heap [] := va_S.rf
  have hl := lv_entry ([.ref (ad 0 0 0), .ref (ad 5 j 0)]) (n := 4) (Nat.le_of_ble_eq_true rfl)
  rw [lg_entry_eq]
  generalize (lg_sl ([.ref (ad 0 0 0), .ref (ad 5 j 0)]) ++ List.replicate (4 - (lg_sl ([.ref (ad 0 0 0), .ref (ad 5 j 0)])).length) Slot.unset).toArray = ls at hl ⊢
  have hl : lv_has ls 4 [(0, .ref (ad 0 0 0)), (1, .ref (ad 5 j 0))] := hl
  have w0 := hts (.fieldLink RX7 32 "Tutorlight" "skillCount" "I") (List.mem_of_getElem? (i := 1) rfl)
  have w1 := hts (.fieldLink RX7 80 "Tutorlight$Learner" "masteries" "[LTutorlight$Mastery;") (List.mem_of_getElem? (i := 2) rfl)
  have w2 := hts (.fieldLink RX7 96 "Tutorlight$Mastery" "odds" "I") (List.mem_of_getElem? (i := 3) rfl)
  have w3 := hts (.fieldLink RX7 11 "Tutorlight" "skills" "[LTutorlight$Skill;") (List.mem_of_getElem? (i := 4) rfl)
  have nX7 : ∀ w ∈ wsX70, w ∈ wsX7_areOddsSound := fun _ h => List.mem_cons_of_mem _ (List.mem_append_left _ (List.mem_append_left _ (List.mem_append_left _ (List.mem_append_left _ (List.mem_append_left _ (List.mem_append_right _ h))))))
  have nX3 : ∀ w ∈ wsX30, w ∈ wsX7_areOddsSound := fun _ h => List.mem_cons_of_mem _ (List.mem_append_left _ (List.mem_append_left _ (List.mem_append_left _ (List.mem_append_left _ (List.mem_append_right _ h)))))
  have nX4 : ∀ w ∈ wsX40, w ∈ wsX7_areOddsSound := fun _ h => List.mem_cons_of_mem _ (List.mem_append_left _ (List.mem_append_left _ (List.mem_append_left _ (List.mem_append_right _ h))))
  obtain ⟨hR, hO, hj⟩ := hp
  obtain ⟨⟨hn, hl4, hd2, hT⟩, hsk, hma, hdc, hle, hxb⟩ := id hO
  have y0_59 := hR.1 _ _ _ _ (t0)
  have y1_60 := hR.1 _ _ _ _ (t1)
  have y5_61 := hR.1 _ _ _ _ (t5 (j := j) hj)
  have y6_62 := hR.1 _ _ _ _ (t6 (j := j) hj)
  refine lv_iconst (v := 0) hx hb dX7_areOddsSound_0 (by decide) ?_
  refine lv_istore_n (lv' := [(2, .int 0), (0, .ref (ad 0 0 0)), (1, .ref (ad 5 j 0))]) hx hb dX7_areOddsSound_1 rfl hl (by decide) rfl (fun ls hl => ?_)
  have K2 : ∀ (n9 : Nat) (i : Nat), (aN S - i) < n9 → (i ≤ aN S) → ∀ (H : Heap) (locs : List Loc), mq_W G.1 A f H → va_S A s.heap H locs → ∀ (ls : Array Slot), lv_has ls 4 [(0, .ref (ad 0 0 0)), (1, .ref (ad 5 j 0)), (2, .int (nI i))] → W p l e (headSpec wsX7_areOddsSound ({ frames := 2, cells := 0, slots := 0, locals := 50 } : Room)).room s m ([.ref (ad 0 0 0), .ref (ad 5 j 0)] : List Value).toArray below meth c H locs 0 0 (MQ below (mq_Qi G A (fun r g => f = g ∧ r = 1)) ([.ref (ad 0 0 0), .ref (ad 5 j 0)] : List Value).toArray s 0 0 A) (F0 m 2 ls []) := by
    intro n9
    induction n9 with
    | zero => intro i hn9; exact absurd hn9 (Nat.not_lt_zero _)
    | succ n9 ih2 =>
      intro i hn9 hi H locs hM hS ls hl
      refine lv_iload_n hx hb dX7_areOddsSound_2 rfl (lv_at hl 2 rfl) ?_
      refine lv_aload_n hx hb dX7_areOddsSound_3 rfl (lv_at hl 0 rfl) ?_
      refine mq_get (ci := 12) (v := .int (nI (aN S))) (C := RX7) (T := TX7) (N := 6) hx hb hts nX7 hown hK hM y0_59 rfl 3 (by decide) w0 (fun _ h9 => h9) rfl dX7_areOddsSound_4 ?_
      refine lv_icmp_ge (tgt := 42) hx hb dX7_areOddsSound_7 (by decide) (fun c_7 => ?_) (fun c_7 => ?_)
      · replace c_7 : nI (aN S) ≤ nI i := c_7
        rw [nI_leI (by omega) (by omega)] at c_7
        refine lv_iconst (v := 1) hx hb dX7_areOddsSound_42 (by decide) ?_
        exact mq_zret (v := 1) hx hb hr (rfl) hlocks hM hS (⟨rfl, rfl⟩) dX7_areOddsSound_43
      · replace c_7 : ¬ nI (aN S) ≤ nI i := c_7
        rw [nI_leI (by omega) (by omega)] at c_7
        obtain ⟨m1, m2, m3, m4, m5, m6, m7, m8⟩ := hma j i hj (by omega)
        have y7_56 := hR.1 _ _ _ _ (t7 (j := j) (k := i) hj (by omega))
        have y8_57 := hR.1 _ _ _ _ (t8 (j := j) (k := i) hj (by omega))
        have y4_58 := hR.1 _ _ _ _ (t4 (j := i) (by omega))
        refine lv_aload_n hx hb dX7_areOddsSound_10 rfl (lv_at hl 1 rfl) ?_
        refine mq_get (ci := 8) (v := .ref (ad 6 j 0)) (C := RX3) (T := TX3) (N := 5) hx hb hts nX3 hown hK hM y5_61 rfl 0 (by decide) w1 (fun _ h9 => h9) rfl dX7_areOddsSound_11 ?_
        refine lv_iload_n hx hb dX7_areOddsSound_14 rfl (lv_at hl 2 rfl) ?_
        refine mq_aald (t0 := 5) (v := .ref (ad 7 j i)) hx hb hK hM rfl y6_62 (vp_in_nI (by omega) (by omega)) (by rw [show (nI i : Int32).toNatClampNeg = i from nI_clamp (by omega)]; exact congrArg va_rf (rf_at (by omega))) dX7_areOddsSound_15 ?_
        refine lv_astore_n (lv' := [(3, .ref (ad 7 j i)), (0, .ref (ad 0 0 0)), (1, .ref (ad 5 j 0)), (2, .int (nI i))]) hx hb dX7_areOddsSound_16 rfl hl (by decide) rfl (fun ls hl => ?_)
        refine lv_aload_n hx hb dX7_areOddsSound_17 rfl (lv_at hl 0 rfl) ?_
        refine mq_get (ci := 9) (v := .int (nI (mOd (aM S j i)))) (C := RX4) (T := TX4) (N := 7) hx hb hts nX4 hown hK hM y7_56 rfl 0 (by decide) w2 (fun _ h9 => h9) rfl dX7_areOddsSound_18 ?_
        refine lv_aload_n hx hb dX7_areOddsSound_21 rfl (lv_at hl 0 rfl) ?_
        refine lv_aload_n hx hb dX7_areOddsSound_22 rfl (lv_at hl 1 rfl) ?_
        refine mq_get (ci := 12) (v := .ref (ad 1 0 0)) (C := RX7) (T := TX7) (N := 6) hx hb hts nX7 hown hK hM y0_59 rfl 0 (by decide) w3 (fun _ h9 => h9) rfl dX7_areOddsSound_23 ?_
        refine lv_iload_n hx hb dX7_areOddsSound_26 rfl (lv_at hl 3 rfl) ?_
        refine mq_aald (t0 := 6) (v := .ref (ad 4 i 0)) hx hb hK hM rfl y1_60 (vp_in_nI (by omega) (by omega)) (by rw [show (nI i : Int32).toNatClampNeg = i from nI_clamp (by omega)]; exact congrArg va_rf (rf_at (by omega))) dX7_areOddsSound_27 ?_
        refine mq_calli (va_runV (As := [.ref (ad 4 i 0)]) (rest := [.int (nI (mOd (aM S j i)))]) ⟨hx, hb, hml, hown, hts⟩ (c_X4_oddsFromAnswers l G A f (ad 7 j i) (ad 4 i 0) (mOd (aM S j i)) (mDu (aM S j i)) (mTo (aM S j i)) (mRo (aM S j i)) (mOp (aM S j i)) (mAn (aM S j i)) (ad 8 j i) (aS S i).1 (aS S i).2.1 (aS S i).2.2.1 (aS S i).2.2.2 (xW X j i)) (cwV 1 hts gX7_areOddsSound_X4_oddsFromAnswers rfl rfl rfl (by decide +kernel) ⟨Nat.le_of_ble_eq_true rfl, Nat.le_of_ble_eq_true rfl⟩) (mq_preV hK hZ hS hA hM (q := (RX4, TX4, 7)) y7_56 rfl (⟨⟨y7_56, y8_57, y4_58⟩, (hsk i (by omega)).1, (hsk i (by omega)).2.1, (hsk i (by omega)).2.2.1, m2, by omega, m6⟩) _) rfl rfl hl.1 rfl (lv_room (Nat.le_of_ble_eq_true rfl)) dX7_areOddsSound_28 ⟨Nat.le_of_ble_eq_true rfl, Nat.le_of_ble_eq_true rfl⟩) hS (fun r28 g28 H locs p28 hM hS => ?_)
        refine W.widen (k := 0) (n := 0) (Nat.le_of_ble_eq_true rfl) (Nat.le_of_ble_eq_true rfl) ?_
        obtain ⟨rfl, rfl⟩ := p28
        refine lv_icmp_eq (tgt := 36) hx hb dX7_areOddsSound_31 (by decide) (fun c_31 => ?_) (fun c_31 => absurd c_31 (fun h9 => h9 (congrArg nI (m7 (by omega)))))
        refine lv_iinc (v := nI (i + 1)) (lv' := [(2, .int (nI (i + 1))), (3, .ref (ad 7 j i)), (0, .ref (ad 0 0 0)), (1, .ref (ad 5 j 0))]) hx hb dX7_areOddsSound_36 hl (k := 3) rfl (nI_add _ _) (by decide) rfl (fun ls hl => ?_)
        refine lv_goto (tgt := 2) hx hb dX7_areOddsSound_39 (by decide) ?_
        exact ih2 (i + 1) (by omega) (by omega) _ _ hM hS _ (lv_sub hl [2, 3, 0] rfl)
  exact K2 _ 0 (Nat.lt_succ_self _) (Nat.zero_le _) _ _ hM hS _ (lv_sub hl [1, 2, 0] rfl)

set_option maxHeartbeats 4000000 in
set_option maxRecDepth 100000 in
theorem c_X7_areDaysSound (l : Launch) (G : mq_G) (A : Nat → Prop) (f : mq_F) (ad : AD) (S : AT) (X : CX) (S2 : AT) (Y : MX) (O : OX) (T : Nat) (j : Nat) : Met l yX7_areDaysSound wsX7_areDaysSound ({ frames := 1, cells := 0, slots := 0, locals := 25 } : Room) (mq_Pc G A f (WR G f ad S X S2 Y O ∧ cOK S X T ∧ j < aL S) [.ref (ad 0 0 0), .ref (ad 5 j 0)]) (mq_Qi G A (fun r g => f = g ∧ r = 1)) 0 0 A := by
  refine Met.ofW (cc := cX7_areDaysSound) (maxL := 4) (ret := (some .boolean)) (by decide) rfl ?_
  intro p e s m args below meth c s₁ B hml hv
  obtain ⟨rfl, ⟨hK, hZ, hM, hA⟩, hp⟩ := hv
  have hx := B.exec
  have hb := B.bytes
  have hr := B.returns
  have hts := atoms_spec (ws := wsX7_areDaysSound) B.pre
  have hown : s.vm.findClass RX7 = some m.cls := findClass_of_methodNamed B.named
  have hlocks := B.notSynchronized
  have hS : va_S A s.heap s.heap [] := va_S.rf
  have hl := lv_entry ([.ref (ad 0 0 0), .ref (ad 5 j 0)]) (n := 4) (Nat.le_of_ble_eq_true rfl)
  rw [lg_entry_eq]
  generalize (lg_sl ([.ref (ad 0 0 0), .ref (ad 5 j 0)]) ++ List.replicate (4 - (lg_sl ([.ref (ad 0 0 0), .ref (ad 5 j 0)])).length) Slot.unset).toArray = ls at hl ⊢
  have hl : lv_has ls 4 [(0, .ref (ad 0 0 0)), (1, .ref (ad 5 j 0))] := hl
  have w0 := hts (.fieldLink RX7 32 "Tutorlight" "skillCount" "I") (List.mem_of_getElem? (i := 1) rfl)
  have w1 := hts (.fieldLink RX7 80 "Tutorlight$Learner" "masteries" "[LTutorlight$Mastery;") (List.mem_of_getElem? (i := 2) rfl)
  have w2 := hts (.fieldLink RX7 134 "Tutorlight$Mastery" "dueDay" "I") (List.mem_of_getElem? (i := 3) rfl)
  have w3 := hts (.fieldLink RX7 117 "Tutorlight" "day" "I") (List.mem_of_getElem? (i := 4) rfl)
  have nX7 : ∀ w ∈ wsX70, w ∈ wsX7_areDaysSound := fun _ h => List.mem_cons_of_mem _ (List.mem_append_left _ (List.mem_append_left _ (List.mem_append_right _ h)))
  have nX3 : ∀ w ∈ wsX30, w ∈ wsX7_areDaysSound := fun _ h => List.mem_cons_of_mem _ (List.mem_append_left _ (List.mem_append_right _ h))
  have nX4 : ∀ w ∈ wsX40, w ∈ wsX7_areDaysSound := fun _ h => List.mem_cons_of_mem _ (List.mem_append_right _ h)
  obtain ⟨hR, hO, hj⟩ := hp
  obtain ⟨⟨hn, hl4, hd2, hT⟩, hsk, hma, hdc, hle, hxb⟩ := id hO
  have y0_64 := hR.1 _ _ _ _ (t0)
  have y5_65 := hR.1 _ _ _ _ (t5 (j := j) hj)
  have y6_66 := hR.1 _ _ _ _ (t6 (j := j) hj)
  refine lv_iconst (v := 0) hx hb dX7_areDaysSound_0 (by decide) ?_
  refine lv_istore_n (lv' := [(2, .int 0), (0, .ref (ad 0 0 0)), (1, .ref (ad 5 j 0))]) hx hb dX7_areDaysSound_1 rfl hl (by decide) rfl (fun ls hl => ?_)
  have K2 : ∀ (n9 : Nat) (i : Nat), (aN S - i) < n9 → (i ≤ aN S) → ∀ (H : Heap) (locs : List Loc), mq_W G.1 A f H → va_S A s.heap H locs → ∀ (ls : Array Slot), lv_has ls 4 [(0, .ref (ad 0 0 0)), (1, .ref (ad 5 j 0)), (2, .int (nI i))] → W p l e (headSpec wsX7_areDaysSound ({ frames := 1, cells := 0, slots := 0, locals := 25 } : Room)).room s m ([.ref (ad 0 0 0), .ref (ad 5 j 0)] : List Value).toArray below meth c H locs 0 0 (MQ below (mq_Qi G A (fun r g => f = g ∧ r = 1)) ([.ref (ad 0 0 0), .ref (ad 5 j 0)] : List Value).toArray s 0 0 A) (F0 m 2 ls []) := by
    intro n9
    induction n9 with
    | zero => intro i hn9; exact absurd hn9 (Nat.not_lt_zero _)
    | succ n9 ih2 =>
      intro i hn9 hi H locs hM hS ls hl
      refine lv_iload_n hx hb dX7_areDaysSound_2 rfl (lv_at hl 2 rfl) ?_
      refine lv_aload_n hx hb dX7_areDaysSound_3 rfl (lv_at hl 0 rfl) ?_
      refine mq_get (ci := 12) (v := .int (nI (aN S))) (C := RX7) (T := TX7) (N := 6) hx hb hts nX7 hown hK hM y0_64 rfl 3 (by decide) w0 (fun _ h9 => h9) rfl dX7_areDaysSound_4 ?_
      refine lv_icmp_ge (tgt := 47) hx hb dX7_areDaysSound_7 (by decide) (fun c_7 => ?_) (fun c_7 => ?_)
      · replace c_7 : nI (aN S) ≤ nI i := c_7
        rw [nI_leI (by omega) (by omega)] at c_7
        refine lv_iconst (v := 1) hx hb dX7_areDaysSound_47 (by decide) ?_
        exact mq_zret (v := 1) hx hb hr (rfl) hlocks hM hS (⟨rfl, rfl⟩) dX7_areDaysSound_48
      · replace c_7 : ¬ nI (aN S) ≤ nI i := c_7
        rw [nI_leI (by omega) (by omega)] at c_7
        obtain ⟨m1, m2, m3, m4, m5, m6, m7, m8⟩ := hma j i hj (by omega)
        have y7_63 := hR.1 _ _ _ _ (t7 (j := j) (k := i) hj (by omega))
        refine lv_aload_n hx hb dX7_areDaysSound_10 rfl (lv_at hl 1 rfl) ?_
        refine mq_get (ci := 8) (v := .ref (ad 6 j 0)) (C := RX3) (T := TX3) (N := 5) hx hb hts nX3 hown hK hM y5_65 rfl 0 (by decide) w1 (fun _ h9 => h9) rfl dX7_areDaysSound_11 ?_
        refine lv_iload_n hx hb dX7_areDaysSound_14 rfl (lv_at hl 2 rfl) ?_
        refine mq_aald (t0 := 5) (v := .ref (ad 7 j i)) hx hb hK hM rfl y6_66 (vp_in_nI (by omega) (by omega)) (by rw [show (nI i : Int32).toNatClampNeg = i from nI_clamp (by omega)]; exact congrArg va_rf (rf_at (by omega))) dX7_areDaysSound_15 ?_
        refine mq_get (ci := 9) (v := .int (du (mDu (aM S j i)))) (C := RX4) (T := TX4) (N := 7) hx hb hts nX4 hown hK hM y7_63 rfl 2 (by decide) w2 (fun _ h9 => h9) rfl dX7_areDaysSound_16 ?_
        refine lv_istore_n (lv' := [(3, .int (du (mDu (aM S j i)))), (0, .ref (ad 0 0 0)), (1, .ref (ad 5 j 0)), (2, .int (nI i))]) hx hb dX7_areDaysSound_19 rfl hl (by decide) rfl (fun ls hl => ?_)
        refine lv_iload_n hx hb dX7_areDaysSound_20 rfl (lv_at hl 0 rfl) ?_
        refine lv_aload_n hx hb dX7_areDaysSound_21 rfl (lv_at hl 1 rfl) ?_
        refine mq_get (ci := 12) (v := .int (nI (aD S))) (C := RX7) (T := TX7) (N := 6) hx hb hts nX7 hown hK hM y0_64 rfl 5 (by decide) w3 (fun _ h9 => h9) rfl dX7_areDaysSound_22 ?_
        refine lv_icmp_le (tgt := 41) hx hb dX7_areDaysSound_25 (by decide) (fun c_25 => ?_) (fun c_25 => ?_)
        · replace c_25 : du (mDu (aM S j i)) ≤ nI (aD S) := c_25
          rw [du_leN (by omega) (by omega)] at c_25
          refine lv_iinc (v := nI (i + 1)) (lv' := [(2, .int (nI (i + 1))), (3, .int (du (mDu (aM S j i)))), (0, .ref (ad 0 0 0)), (1, .ref (ad 5 j 0))]) hx hb dX7_areDaysSound_41 hl (k := 3) rfl (nI_add _ _) (by decide) rfl (fun ls hl => ?_)
          refine lv_goto (tgt := 2) hx hb dX7_areDaysSound_44 (by decide) ?_
          exact ih2 (i + 1) (by omega) (by omega) _ _ hM hS _ (lv_sub hl [2, 3, 0] rfl)
        · replace c_25 : ¬ du (mDu (aM S j i)) ≤ nI (aD S) := c_25
          rw [du_leN (by omega) (by omega)] at c_25
          refine lv_aload_n hx hb dX7_areDaysSound_28 rfl (lv_at hl 1 rfl) ?_
          refine lv_aload_n hx hb dX7_areDaysSound_29 rfl (lv_at hl 2 rfl) ?_
          refine lv_iload_n hx hb dX7_areDaysSound_30 rfl (lv_at hl 3 rfl) ?_
          refine lv_iload_n hx hb dX7_areDaysSound_31 rfl (lv_at hl 0 rfl) ?_
          refine mq_calli (va_runV (As := [.ref (ad 5 j 0), .int (nI i), .int (du (mDu (aM S j i)))]) (rest := []) ⟨hx, hb, hml, hown, hts⟩ (c_X7_othersDueOn l G A f ad S X S2 Y O T j i (mDu (aM S j i))) (cwV 3 hts gX7_areDaysSound_X7_othersDueOn rfl rfl rfl (by decide +kernel) ⟨Nat.le_of_ble_eq_true rfl, Nat.le_of_ble_eq_true rfl⟩) (mq_preV hK hZ hS hA hM (q := (RX7, TX7, 6)) y0_64 rfl (⟨hR, hO, hj, by omega, by omega⟩) _) rfl rfl hl.1 rfl (lv_room (Nat.le_of_ble_eq_true rfl)) dX7_areDaysSound_32 ⟨Nat.le_of_ble_eq_true rfl, Nat.le_of_ble_eq_true rfl⟩) hS (fun r32 g32 H locs p32 hM hS => ?_)
          refine W.widen (k := 0) (n := 0) (Nat.le_of_ble_eq_true rfl) (Nat.le_of_ble_eq_true rfl) ?_
          obtain ⟨rfl, rfl⟩ := p32
          have ol := odu_lt (S := S) (j := j) (k := i) (d := mDu (aM S j i)) (by omega) rfl (hdc j hj _ (by omega))
          refine lv_iconst (v := 2) hx hb dX7_areDaysSound_35 (by decide) ?_
          refine lv_icmp_lt (tgt := 41) hx hb dX7_areDaysSound_36 (by decide) (fun c_36 => ?_) (fun c_36 => absurd c_36 (fun h9 => h9 (nI_lt (b := 2) ol (by decide))))
          refine lv_iinc (v := nI (i + 1)) (lv' := [(2, .int (nI (i + 1))), (3, .int (du (mDu (aM S j i)))), (0, .ref (ad 0 0 0)), (1, .ref (ad 5 j 0))]) hx hb dX7_areDaysSound_41 hl (k := 3) rfl (nI_add _ _) (by decide) rfl (fun ls hl => ?_)
          refine lv_goto (tgt := 2) hx hb dX7_areDaysSound_44 (by decide) ?_
          exact ih2 (i + 1) (by omega) (by omega) _ _ hM hS _ (lv_sub hl [2, 3, 0] rfl)
  exact K2 _ 0 (Nat.lt_succ_self _) (Nat.zero_le _) _ _ hM hS _ (lv_sub hl [1, 2, 0] rfl)

set_option maxHeartbeats 4000000 in
set_option maxRecDepth 100000 in
theorem c_X7_isExerciseSound (l : Launch) (G : mq_G) (A : Nat → Prop) (f : mq_F) (ad : AD) (S : AT) (X : CX) (S2 : AT) (Y : MX) (O : OX) (T : Nat) (j : Nat) : Met l yX7_isExerciseSound wsX7_isExerciseSound ({ frames := 1, cells := 0, slots := 0, locals := 21 } : Room) (mq_Pc G A f (WR G f ad S X S2 Y O ∧ cOK S X T ∧ j < aL S) [.ref (ad 5 j 0)]) (mq_Qi G A (fun r g => f = g ∧ r = 1)) 0 0 A := by
  refine Met.ofW (cc := cX7_isExerciseSound) (maxL := 2) (ret := (some .boolean)) (by decide) rfl ?_
  intro p e s m args below meth c s₁ B hml hv
  obtain ⟨rfl, ⟨hK, hZ, hM, hA⟩, hp⟩ := hv
  have hx := B.exec
  have hb := B.bytes
  have hr := B.returns
  have hts := atoms_spec (ws := wsX7_isExerciseSound) B.pre
  have hown : s.vm.findClass RX7 = some m.cls := findClass_of_methodNamed B.named
  have hlocks := B.notSynchronized
  have hS : va_S A s.heap s.heap [] := va_S.rf
  have hl := lv_entry ([.ref (ad 5 j 0)]) (n := 2) (Nat.le_of_ble_eq_true rfl)
  rw [lg_entry_eq]
  generalize (lg_sl ([.ref (ad 5 j 0)]) ++ List.replicate (2 - (lg_sl ([.ref (ad 5 j 0)])).length) Slot.unset).toArray = ls at hl ⊢
  have hl : lv_has ls 2 [(0, .ref (ad 5 j 0))] := hl
  have w0 := hts (.fieldLink RX7 168 "Tutorlight$Learner" "exercise" "LTutorlight$Exercise;") (List.mem_of_getElem? (i := 1) rfl)
  have w1 := hts (.fieldLink RX7 178 "Tutorlight$Exercise" "equation" "LTutorlight$Equation;") (List.mem_of_getElem? (i := 2) rfl)
  have w2 := hts (.fieldLink RX7 283 "Tutorlight$Exercise" "solution" "I") (List.mem_of_getElem? (i := 3) rfl)
  have nX3 : ∀ w ∈ wsX30, w ∈ wsX7_isExerciseSound := fun _ h => List.mem_cons_of_mem _ (List.mem_append_left _ (List.mem_append_left _ (List.mem_append_right _ h)))
  have nX1 : ∀ w ∈ wsX10, w ∈ wsX7_isExerciseSound := fun _ h => List.mem_cons_of_mem _ (List.mem_append_left _ (List.mem_append_right _ h))
  obtain ⟨hR, hO, hj⟩ := hp
  obtain ⟨⟨hn, hl4, hd2, hT⟩, hsk, hma, hdc, hle, hxb⟩ := id hO
  have y5_69 := hR.1 _ _ _ _ (t5 (j := j) hj)
  refine lv_aload_n hx hb dX7_isExerciseSound_0 rfl (lv_at hl 0 rfl) ?_
  refine mq_get (ci := 8) (v := va_rf (oMap (lEx (aE S j)) (ad 10 j 0))) (C := RX3) (T := TX3) (N := 5) hx hb hts nX3 hown hK hM y5_69 rfl 1 (by decide) w0 (fun _ h9 => h9) rfl dX7_isExerciseSound_1 ?_
  refine mq_astore_nq (lv' := [(1, va_rf (oMap (lEx (aE S j)) (ad 10 j 0))), (0, .ref (ad 5 j 0))]) hx hb dX7_isExerciseSound_4 rfl hl (by decide) rfl (fun ls hl => ?_)
  refine mq_aload_nq hx hb dX7_isExerciseSound_5 rfl (lv_at hl 0 rfl) ?_
  refine mq_ifnullq (tgt := 23) hx hb dX7_isExerciseSound_6 (by decide) (fun c_6 => ?_) (fun a9 c_6 => ?_)
  · replace c_6 := oMap_none c_6
    rw [c_6] at hl
    refine lv_iconst (v := 1) hx hb dX7_isExerciseSound_23 (by decide) ?_
    refine lv_goto (tgt := 28) hx hb dX7_isExerciseSound_24 (by decide) ?_
    exact mq_zret (v := 1) hx hb hr (rfl) hlocks hM hS (⟨rfl, rfl⟩) dX7_isExerciseSound_28
  · obtain ⟨e9, c_6⟩ := oMap_some c_6
    rw [c_6] at hl
    obtain ⟨x1, x2, x3, x4, x5⟩ := (hle j hj).1 e9 c_6
    have y10_67 := hR.1 _ _ _ _ (t10 (j := j) hj c_6)
    have y11_68 := hR.1 _ _ _ _ (t11 (j := j) hj c_6)
    refine lv_aload_n hx hb dX7_isExerciseSound_9 rfl (lv_at hl 0 rfl) ?_
    refine mq_get (ci := 6) (v := .ref (ad 11 j 0)) (C := RX1) (T := TX1) (N := 5) hx hb hts nX1 hown hK hM y10_67 rfl 2 (by decide) w1 (fun _ h9 => h9) rfl dX7_isExerciseSound_10 ?_
    refine lv_aload_n hx hb dX7_isExerciseSound_13 rfl (lv_at hl 0 rfl) ?_
    refine mq_get (ci := 6) (v := .int (ex_sol (e9.2.1))) (C := RX1) (T := TX1) (N := 5) hx hb hts nX1 hown hK hM y10_67 rfl 1 (by decide) w2 (fun _ h9 => h9) rfl dX7_isExerciseSound_14 ?_
    refine mq_calli (va_runV (As := [.int (ex_sol (e9.2.1))]) (rest := []) ⟨hx, hb, hml, hown, hts⟩ (c_X0_hasOnlySolution l G A f (ad 11 j 0) e9.2.2.1.1 e9.2.2.1.2.1 e9.2.2.1.2.2.1 e9.2.2.1.2.2.2 (ex_sol e9.2.1)) (cwV 1 hts gX7_isExerciseSound_X0_hasOnlySolution rfl rfl rfl (by decide +kernel) ⟨Nat.le_of_ble_eq_true rfl, Nat.le_of_ble_eq_true rfl⟩) (mq_preV hK hZ hS hA hM (q := (RX0, TX0, 4)) y11_68 rfl (y11_68) _) rfl rfl hl.1 rfl (lv_room (Nat.le_of_ble_eq_true rfl)) dX7_isExerciseSound_17 ⟨Nat.le_of_ble_eq_true rfl, Nat.le_of_ble_eq_true rfl⟩) hS (fun r17 g17 H locs p17 hM hS => ?_)
    refine W.widen (k := 0) (n := 0) (Nat.le_of_ble_eq_true rfl) (Nat.le_of_ble_eq_true rfl) ?_
    obtain ⟨rfl, rfl⟩ := p17
    have se := eqOK_one x3 (by rw [ex_solI]; omega)
    refine lv_if_eq (tgt := 27) hx hb dX7_isExerciseSound_20 (by decide) (fun c_20 => absurd c_20 (fun h9 => by rw [se] at h9; exact absurd h9 (by decide))) (fun c_20 => ?_)
    refine lv_iconst (v := 1) hx hb dX7_isExerciseSound_23 (by decide) ?_
    refine lv_goto (tgt := 28) hx hb dX7_isExerciseSound_24 (by decide) ?_
    exact mq_zret (v := 1) hx hb hr (rfl) hlocks hM hS (⟨rfl, rfl⟩) dX7_isExerciseSound_28

set_option maxHeartbeats 4000000 in
set_option maxRecDepth 100000 in
theorem c_X7_isSound (l : Launch) (G : mq_G) (A : Nat → Prop) (f : mq_F) (ad : AD) (S : AT) (X : CX) (S2 : AT) (Y : MX) (O : OX) (T : Nat)  : Met l yX7_isSound wsX7_isSound ({ frames := 3, cells := 0, slots := 0, locals := 73 } : Room) (mq_Pc G A f (WR G f ad S X S2 Y O ∧ cOK S X T) [.ref (ad 0 0 0)]) (mq_Qi G A (fun r g => f = g ∧ r = 1)) 0 0 A := by
  refine Met.ofW (cc := cX7_isSound) (maxL := 3) (ret := (some .boolean)) (by decide) rfl ?_
  intro p e s m args below meth c s₁ B hml hv
  obtain ⟨rfl, ⟨hK, hZ, hM, hA⟩, hp⟩ := hv
  have hx := B.exec
  have hb := B.bytes
  have hr := B.returns
  have hts := atoms_spec (ws := wsX7_isSound) B.pre
  have hown : s.vm.findClass RX7 = some m.cls := findClass_of_methodNamed B.named
  have hlocks := B.notSynchronized
  have hS : va_S A s.heap s.heap [] := va_S.rf
  have hl := lv_entry ([.ref (ad 0 0 0)]) (n := 3) (Nat.le_of_ble_eq_true rfl)
  rw [lg_entry_eq]
  generalize (lg_sl ([.ref (ad 0 0 0)]) ++ List.replicate (3 - (lg_sl ([.ref (ad 0 0 0)])).length) Slot.unset).toArray = ls at hl ⊢
  have hl : lv_has ls 3 [(0, .ref (ad 0 0 0))] := hl
  have w0 := hts (.fieldLink RX7 66 "Tutorlight" "learnerCount" "I") (List.mem_of_getElem? (i := 1) rfl)
  have w1 := hts (.fieldLink RX7 17 "Tutorlight" "learners" "[LTutorlight$Learner;") (List.mem_of_getElem? (i := 2) rfl)
  have nX7 : ∀ w ∈ wsX70, w ∈ wsX7_isSound := fun _ h => List.mem_cons_of_mem _ (List.mem_append_left _ (List.mem_append_left _ (List.mem_append_left _ (List.mem_append_left _ (List.mem_append_left _ (List.mem_append_left _ (List.mem_append_left _ (List.mem_append_right _ h))))))))
  obtain ⟨hR, hO⟩ := hp
  obtain ⟨⟨hn, hl4, hd2, hT⟩, hsk, hma, hdc, hle, hxb⟩ := id hO
  have y0_70 := hR.1 _ _ _ _ (t0)
  have y2_71 := hR.1 _ _ _ _ (t2)
  refine lv_iconst (v := 0) hx hb dX7_isSound_0 (by decide) ?_
  refine lv_istore_n (lv' := [(1, .int 0), (0, .ref (ad 0 0 0))]) hx hb dX7_isSound_1 rfl hl (by decide) rfl (fun ls hl => ?_)
  have K2 : ∀ (n9 : Nat) (i : Nat), (aL S - i) < n9 → (i ≤ aL S) → ∀ (H : Heap) (locs : List Loc), mq_W G.1 A f H → va_S A s.heap H locs → ∀ (ls : Array Slot), lv_has ls 3 [(0, .ref (ad 0 0 0)), (1, .int (nI i))] → W p l e (headSpec wsX7_isSound ({ frames := 3, cells := 0, slots := 0, locals := 73 } : Room)).room s m ([.ref (ad 0 0 0)] : List Value).toArray below meth c H locs 0 0 (MQ below (mq_Qi G A (fun r g => f = g ∧ r = 1)) ([.ref (ad 0 0 0)] : List Value).toArray s 0 0 A) (F0 m 2 ls []) := by
    intro n9
    induction n9 with
    | zero => intro i hn9; exact absurd hn9 (Nat.not_lt_zero _)
    | succ n9 ih2 =>
      intro i hn9 hi H locs hM hS ls hl
      refine lv_iload_n hx hb dX7_isSound_2 rfl (lv_at hl 1 rfl) ?_
      refine lv_aload_n hx hb dX7_isSound_3 rfl (lv_at hl 0 rfl) ?_
      refine mq_get (ci := 12) (v := .int (nI (aL S))) (C := RX7) (T := TX7) (N := 6) hx hb hts nX7 hown hK hM y0_70 rfl 4 (by decide) w0 (fun _ h9 => h9) rfl dX7_isSound_4 ?_
      refine lv_icmp_ge (tgt := 48) hx hb dX7_isSound_7 (by decide) (fun c_7 => ?_) (fun c_7 => ?_)
      · replace c_7 : nI (aL S) ≤ nI i := c_7
        rw [nI_leI (by omega) (by omega)] at c_7
        refine lv_iconst (v := 1) hx hb dX7_isSound_48 (by decide) ?_
        exact mq_zret (v := 1) hx hb hr (rfl) hlocks hM hS (⟨rfl, rfl⟩) dX7_isSound_49
      · replace c_7 : ¬ nI (aL S) ≤ nI i := c_7
        rw [nI_leI (by omega) (by omega)] at c_7
        refine lv_aload_n hx hb dX7_isSound_10 rfl (lv_at hl 0 rfl) ?_
        refine mq_get (ci := 12) (v := .ref (ad 2 0 0)) (C := RX7) (T := TX7) (N := 6) hx hb hts nX7 hown hK hM y0_70 rfl 1 (by decide) w1 (fun _ h9 => h9) rfl dX7_isSound_11 ?_
        refine lv_iload_n hx hb dX7_isSound_14 rfl (lv_at hl 1 rfl) ?_
        refine mq_aald (t0 := 4) (v := .ref (ad 5 i 0)) hx hb hK hM rfl y2_71 (vp_in_nI (by omega) (by omega)) (by rw [show (nI i : Int32).toNatClampNeg = i from nI_clamp (by omega)]; exact congrArg va_rf (rf_at (by omega))) dX7_isSound_15 ?_
        refine lv_astore_n (lv' := [(2, .ref (ad 5 i 0)), (0, .ref (ad 0 0 0)), (1, .int (nI i))]) hx hb dX7_isSound_16 rfl hl (by decide) rfl (fun ls hl => ?_)
        refine lv_aload_n hx hb dX7_isSound_17 rfl (lv_at hl 1 rfl) ?_
        refine lv_aload_n hx hb dX7_isSound_18 rfl (lv_at hl 0 rfl) ?_
        refine mq_calli (va_runV (As := [.ref (ad 5 i 0)]) (rest := []) ⟨hx, hb, hml, hown, hts⟩ (c_X7_areOddsSound l G A f ad S X S2 Y O T i) (cwV 1 hts gX7_isSound_X7_areOddsSound rfl rfl rfl (by decide +kernel) ⟨Nat.le_of_ble_eq_true rfl, Nat.le_of_ble_eq_true rfl⟩) (mq_preV hK hZ hS hA hM (q := (RX7, TX7, 6)) y0_70 rfl (⟨hR, hO, by omega⟩) _) rfl rfl hl.1 rfl (lv_room (Nat.le_of_ble_eq_true rfl)) dX7_isSound_19 ⟨Nat.le_of_ble_eq_true rfl, Nat.le_of_ble_eq_true rfl⟩) hS (fun r19 g19 H locs p19 hM hS => ?_)
        refine W.widen (k := 0) (n := 0) (Nat.le_of_ble_eq_true rfl) (Nat.le_of_ble_eq_true rfl) ?_
        obtain ⟨rfl, rfl⟩ := p19
        refine lv_if_eq (tgt := 40) hx hb dX7_isSound_22 (by decide) (fun c_22 => absurd c_22 (by decide)) (fun c_22 => ?_)
        refine lv_aload_n hx hb dX7_isSound_25 rfl (lv_at hl 1 rfl) ?_
        refine lv_aload_n hx hb dX7_isSound_26 rfl (lv_at hl 0 rfl) ?_
        refine mq_calli (va_runV (As := [.ref (ad 5 i 0)]) (rest := []) ⟨hx, hb, hml, hown, hts⟩ (c_X7_areDaysSound l G A f ad S X S2 Y O T i) (cwV 1 hts gX7_isSound_X7_areDaysSound rfl rfl rfl (by decide +kernel) ⟨Nat.le_of_ble_eq_true rfl, Nat.le_of_ble_eq_true rfl⟩) (mq_preV hK hZ hS hA hM (q := (RX7, TX7, 6)) y0_70 rfl (⟨hR, hO, by omega⟩) _) rfl rfl hl.1 rfl (lv_room (Nat.le_of_ble_eq_true rfl)) dX7_isSound_27 ⟨Nat.le_of_ble_eq_true rfl, Nat.le_of_ble_eq_true rfl⟩) hS (fun r27 g27 H locs p27 hM hS => ?_)
        refine W.widen (k := 0) (n := 0) (Nat.le_of_ble_eq_true rfl) (Nat.le_of_ble_eq_true rfl) ?_
        obtain ⟨rfl, rfl⟩ := p27
        refine lv_if_eq (tgt := 40) hx hb dX7_isSound_30 (by decide) (fun c_30 => absurd c_30 (by decide)) (fun c_30 => ?_)
        refine lv_aload_n hx hb dX7_isSound_33 rfl (lv_at hl 0 rfl) ?_
        refine mq_calli (va_runS (As := [.ref (ad 5 i 0)]) (rest := []) ⟨hx, hb, hml, hown, hts⟩ (c_X7_isExerciseSound l G A f ad S X S2 Y O T i) (va_cwS 1 hts gX7_isSound_X7_isExerciseSound rfl rfl rfl (by decide +kernel) ⟨Nat.le_of_ble_eq_true rfl, Nat.le_of_ble_eq_true rfl⟩) (mq_preS hK hZ hS hA hM (⟨hR, hO, by omega⟩) _) rfl rfl hl.1 rfl (lv_room (Nat.le_of_ble_eq_true rfl)) dX7_isSound_34 ⟨Nat.le_of_ble_eq_true rfl, Nat.le_of_ble_eq_true rfl⟩) hS (fun r34 g34 H locs p34 hM hS => ?_)
        refine W.widen (k := 0) (n := 0) (Nat.le_of_ble_eq_true rfl) (Nat.le_of_ble_eq_true rfl) ?_
        obtain ⟨rfl, rfl⟩ := p34
        refine lv_if_ne (tgt := 42) hx hb dX7_isSound_37 (by decide) (fun c_37 => ?_) (fun c_37 => absurd c_37 (by decide))
        refine lv_iinc (v := nI (i + 1)) (lv' := [(1, .int (nI (i + 1))), (2, .ref (ad 5 i 0)), (0, .ref (ad 0 0 0))]) hx hb dX7_isSound_42 hl (k := 2) rfl (nI_add _ _) (by decide) rfl (fun ls hl => ?_)
        refine lv_goto (tgt := 2) hx hb dX7_isSound_45 (by decide) ?_
        exact ih2 (i + 1) (by omega) (by omega) _ _ hM hS _ (lv_sub hl [2, 0] rfl)
  exact K2 _ 0 (Nat.lt_succ_self _) (Nat.zero_le _) _ _ hM hS _ (lv_sub hl [1, 0] rfl)

set_option maxHeartbeats 4000000 in
set_option maxRecDepth 100000 in
theorem c_X7_checksum (l : Launch) (G : mq_G) (A : Nat → Prop) (f : mq_F) (ad : AD) (S : AT) (X : CX) (S2 : AT) (Y : MX) (O : OX) (T : Nat)  : Met l yX7_checksum wsX7_checksum ({ frames := 0, cells := 0, slots := 0, locals := 0 } : Room) (mq_Pc G A f (WR G f ad S X S2 Y O ∧ cOK S X T) [.ref (ad 0 0 0)]) (mq_Ql G A (fun r g => f = g ∧ r = ckO S (aL S))) 0 0 A := by
  refine Met.ofW (cc := cX7_checksum) (maxL := 5) (ret := (some .long)) (by decide) rfl ?_
  intro p e s m args below meth c s₁ B hml hv
  obtain ⟨rfl, ⟨hK, hZ, hM, hA⟩, hp⟩ := hv
  have hx := B.exec
  have hb := B.bytes
  have hr := B.returns
  have hts := atoms_spec (ws := wsX7_checksum) B.pre
  have hown : s.vm.findClass RX7 = some m.cls := findClass_of_methodNamed B.named
  have hlocks := B.notSynchronized
  have hS : va_S A s.heap s.heap [] := va_S.rf
  have hl := lv_entry ([.ref (ad 0 0 0)]) (n := 5) (Nat.le_of_ble_eq_true rfl)
  rw [lg_entry_eq]
  generalize (lg_sl ([.ref (ad 0 0 0)]) ++ List.replicate (5 - (lg_sl ([.ref (ad 0 0 0)])).length) Slot.unset).toArray = ls at hl ⊢
  have hl : lv_has ls 5 [(0, .ref (ad 0 0 0))] := hl
  have w0 := hts (.fieldLink RX7 66 "Tutorlight" "learnerCount" "I") (List.mem_of_getElem? (i := 1) rfl)
  have w1 := hts (.fieldLink RX7 32 "Tutorlight" "skillCount" "I") (List.mem_of_getElem? (i := 2) rfl)
  have w2 := hts (.constantLong RX7 234 (31)) (List.mem_of_getElem? (i := 3) rfl)
  have w3 := hts (.fieldLink RX7 17 "Tutorlight" "learners" "[LTutorlight$Learner;") (List.mem_of_getElem? (i := 4) rfl)
  have w4 := hts (.fieldLink RX7 80 "Tutorlight$Learner" "masteries" "[LTutorlight$Mastery;") (List.mem_of_getElem? (i := 5) rfl)
  have w5 := hts (.fieldLink RX7 96 "Tutorlight$Mastery" "odds" "I") (List.mem_of_getElem? (i := 6) rfl)
  have nX7 : ∀ w ∈ wsX70, w ∈ wsX7_checksum := fun _ h => List.mem_cons_of_mem _ (List.mem_append_left _ (List.mem_append_left _ (List.mem_append_right _ h)))
  have nX3 : ∀ w ∈ wsX30, w ∈ wsX7_checksum := fun _ h => List.mem_cons_of_mem _ (List.mem_append_left _ (List.mem_append_right _ h))
  have nX4 : ∀ w ∈ wsX40, w ∈ wsX7_checksum := fun _ h => List.mem_cons_of_mem _ (List.mem_append_right _ h)
  obtain ⟨hR, hO⟩ := hp
  obtain ⟨⟨hn, hl4, hd2, hT⟩, hsk, hma, hdc, hle, hxb⟩ := id hO
  have y0_75 := hR.1 _ _ _ _ (t0)
  have y2_76 := hR.1 _ _ _ _ (t2)
  refine lv_lconst (v := 0) hx hb dX7_checksum_0 (by decide) ?_
  refine lv_lstore_n (lv' := [(1, .long 0), (0, .ref (ad 0 0 0))]) hx hb dX7_checksum_1 rfl hl (by decide) rfl (fun ls hl => ?_)
  refine lv_iconst (v := 0) hx hb dX7_checksum_2 (by decide) ?_
  refine lv_istore_n (lv' := [(3, .int 0), (1, .long 0), (0, .ref (ad 0 0 0))]) hx hb dX7_checksum_3 rfl hl (by decide) rfl (fun ls hl => ?_)
  have K4 : ∀ (n9 : Nat) (j : Nat) (s9 : Int64), (aL S - j) < n9 → (j ≤ aL S) → (s9 = ckO S j) → ∀ (H : Heap) (locs : List Loc), mq_W G.1 A f H → va_S A s.heap H locs → ∀ (ls : Array Slot), lv_has ls 5 [(0, .ref (ad 0 0 0)), (1, .long s9), (3, .int (nI j))] → W p l e (headSpec wsX7_checksum ({ frames := 0, cells := 0, slots := 0, locals := 0 } : Room)).room s m ([.ref (ad 0 0 0)] : List Value).toArray below meth c H locs 0 0 (MQ below (mq_Ql G A (fun r g => f = g ∧ r = ckO S (aL S))) ([.ref (ad 0 0 0)] : List Value).toArray s 0 0 A) (F0 m 4 ls []) := by
    intro n9
    induction n9 with
    | zero => intro j s9 hn9; exact absurd hn9 (Nat.not_lt_zero _)
    | succ n9 ih4 =>
      intro j s9 hn9 hj9 hs9 H locs hM hS ls hl
      refine lv_iload_n hx hb dX7_checksum_4 rfl (lv_at hl 2 rfl) ?_
      refine lv_aload_n hx hb dX7_checksum_5 rfl (lv_at hl 0 rfl) ?_
      refine mq_get (ci := 12) (v := .int (nI (aL S))) (C := RX7) (T := TX7) (N := 6) hx hb hts nX7 hown hK hM y0_75 rfl 4 (by decide) w0 (fun _ h9 => h9) rfl dX7_checksum_6 ?_
      refine lv_icmp_ge (tgt := 59) hx hb dX7_checksum_9 (by decide) (fun c_9 => ?_) (fun c_9 => ?_)
      · replace c_9 : nI (aL S) ≤ nI j := c_9
        rw [nI_leI (by omega) (by omega)] at c_9
        refine lv_lload_n hx hb dX7_checksum_59 rfl (lv_at hl 1 rfl) ?_
        exact mq_lret hx hb hr hlocks hM hS (⟨rfl, by rw [hs9, show j = aL S by omega]⟩) dX7_checksum_60
      · replace c_9 : ¬ nI (aL S) ≤ nI j := c_9
        rw [nI_leI (by omega) (by omega)] at c_9
        refine lv_iconst (v := 0) hx hb dX7_checksum_12 (by decide) ?_
        refine lv_istore (lv' := [(4, .int 0), (0, .ref (ad 0 0 0)), (1, .long s9), (3, .int (nI j))]) hx hb dX7_checksum_13 hl (by decide) rfl (fun ls hl => ?_)
        have K15 : ∀ (n9 : Nat) (i : Nat) (s8 : Int64), (aN S - i) < n9 → (i ≤ aN S) → (s8 = ckI S j s9 i) → ∀ (H : Heap) (locs : List Loc), mq_W G.1 A f H → va_S A s.heap H locs → ∀ (ls : Array Slot), lv_has ls 5 [(0, .ref (ad 0 0 0)), (1, .long s8), (3, .int (nI j)), (4, .int (nI i))] → W p l e (headSpec wsX7_checksum ({ frames := 0, cells := 0, slots := 0, locals := 0 } : Room)).room s m ([.ref (ad 0 0 0)] : List Value).toArray below meth c H locs 0 0 (MQ below (mq_Ql G A (fun r g => f = g ∧ r = ckO S (aL S))) ([.ref (ad 0 0 0)] : List Value).toArray s 0 0 A) (F0 m 15 ls []) := by
          intro n9
          induction n9 with
          | zero => intro i s8 hn9; exact absurd hn9 (Nat.not_lt_zero _)
          | succ n9 ih15 =>
            intro i s8 hn9 hi hs8 H locs hM hS ls hl
            refine lv_iload hx hb dX7_checksum_15 (lv_at hl 3 rfl) ?_
            refine lv_aload_n hx hb dX7_checksum_17 rfl (lv_at hl 0 rfl) ?_
            refine mq_get (ci := 12) (v := .int (nI (aN S))) (C := RX7) (T := TX7) (N := 6) hx hb hts nX7 hown hK hM y0_75 rfl 3 (by decide) w1 (fun _ h9 => h9) rfl dX7_checksum_18 ?_
            refine lv_icmp_ge (tgt := 53) hx hb dX7_checksum_21 (by decide) (fun c_21 => ?_) (fun c_21 => ?_)
            · replace c_21 : nI (aN S) ≤ nI i := c_21
              rw [nI_leI (by omega) (by omega)] at c_21
              refine lv_iinc (v := nI (j + 1)) (lv' := [(3, .int (nI (j + 1))), (0, .ref (ad 0 0 0)), (1, .long s8), (4, .int (nI i))]) hx hb dX7_checksum_53 hl (k := 2) rfl (nI_add _ _) (by decide) rfl (fun ls hl => ?_)
              refine lv_goto (tgt := 4) hx hb dX7_checksum_56 (by decide) ?_
              exact ih4 (j + 1) s8 (by omega) (by omega) (by rw [hs8, hs9, show i = aN S by omega]; rfl) _ _ hM hS _ (lv_sub hl [1, 2, 0] rfl)
            · replace c_21 : ¬ nI (aN S) ≤ nI i := c_21
              rw [nI_leI (by omega) (by omega)] at c_21
              obtain ⟨m1, m2, m3, m4, m5, m6, m7, m8⟩ := hma j i (by omega) (by omega)
              have y5_72 := hR.1 _ _ _ _ (t5 (j := j) (by omega))
              have y6_73 := hR.1 _ _ _ _ (t6 (j := j) (by omega))
              have y7_74 := hR.1 _ _ _ _ (t7 (j := j) (k := i) (by omega) (by omega))
              refine lv_ldc2 hx hb hown w2 dX7_checksum_24 ?_
              refine lv_lload_n hx hb dX7_checksum_27 rfl (lv_at hl 1 rfl) ?_
              refine lv_lmul hx hb dX7_checksum_28 ?_
              refine lv_aload_n hx hb dX7_checksum_29 rfl (lv_at hl 0 rfl) ?_
              refine mq_get (ci := 12) (v := .ref (ad 2 0 0)) (C := RX7) (T := TX7) (N := 6) hx hb hts nX7 hown hK hM y0_75 rfl 1 (by decide) w3 (fun _ h9 => h9) rfl dX7_checksum_30 ?_
              refine lv_iload_n hx hb dX7_checksum_33 rfl (lv_at hl 2 rfl) ?_
              refine mq_aald (t0 := 4) (v := .ref (ad 5 j 0)) hx hb hK hM rfl y2_76 (vp_in_nI (by omega) (by omega)) (by rw [show (nI j : Int32).toNatClampNeg = j from nI_clamp (by omega)]; exact congrArg va_rf (rf_at (by omega))) dX7_checksum_34 ?_
              refine mq_get (ci := 8) (v := .ref (ad 6 j 0)) (C := RX3) (T := TX3) (N := 5) hx hb hts nX3 hown hK hM y5_72 rfl 0 (by decide) w4 (fun _ h9 => h9) rfl dX7_checksum_35 ?_
              refine lv_iload hx hb dX7_checksum_38 (lv_at hl 3 rfl) ?_
              refine mq_aald (t0 := 5) (v := .ref (ad 7 j i)) hx hb hK hM rfl y6_73 (vp_in_nI (by omega) (by omega)) (by rw [show (nI i : Int32).toNatClampNeg = i from nI_clamp (by omega)]; exact congrArg va_rf (rf_at (by omega))) dX7_checksum_40 ?_
              refine mq_get (ci := 9) (v := .int (nI (mOd (aM S j i)))) (C := RX4) (T := TX4) (N := 7) hx hb hts nX4 hown hK hM y7_74 rfl 0 (by decide) w5 (fun _ h9 => h9) rfl dX7_checksum_41 ?_
              refine lv_i2l hx hb dX7_checksum_44 rfl ?_
              refine lv_ladd hx hb dX7_checksum_45 ?_
              refine lv_lstore_n (lv' := [(1, .long ((31 * s8) + ((nI (mOd (aM S j i))).toInt64))), (0, .ref (ad 0 0 0)), (3, .int (nI j)), (4, .int (nI i))]) hx hb dX7_checksum_46 rfl hl (by decide) rfl (fun ls hl => ?_)
              refine lv_iinc (v := nI (i + 1)) (lv' := [(4, .int (nI (i + 1))), (1, .long ((31 * s8) + ((nI (mOd (aM S j i))).toInt64))), (0, .ref (ad 0 0 0)), (3, .int (nI j))]) hx hb dX7_checksum_47 hl (k := 3) rfl (nI_add _ _) (by decide) rfl (fun ls hl => ?_)
              refine lv_goto (tgt := 15) hx hb dX7_checksum_50 (by decide) ?_
              exact ih15 (i + 1) (31 * s8 + (nI (mOd (aM S j i))).toInt64) (by omega) (by omega) (by rw [hs8]; rfl) _ _ hM hS _ (lv_sub hl [2, 1, 3, 0] rfl)
        exact K15 _ 0 s9 (Nat.lt_succ_self _) (Nat.zero_le _) (rfl) _ _ hM hS _ (lv_sub hl [1, 2, 3, 0] rfl)
  exact K4 _ 0 0 (Nat.lt_succ_self _) (Nat.zero_le _) (rfl) _ _ hM hS _ (lv_sub hl [2, 1, 0] rfl)

set_option maxHeartbeats 4000000 in
set_option maxRecDepth 100000 in
theorem c_X7_knownShare (l : Launch) (hfl : l.stackTraces = false) (G : mq_G) (A : Nat → Prop) (f : mq_F) (ad : AD) (S : AT) (X : CX) (S2 : AT) (Y : MX) (O : OX) (T : Nat)  : vx_Met l yX7_knownShare wsX7_knownShare ({ frames := 7, cells := 1, slots := 6, locals := 120 } : Room) (mq_Pc G A f (WR G f ad S X S2 Y O ∧ cOK S X T) [.ref (ad 0 0 0)]) (mq_Qf G A (fun r g => f = g ∧ aL S * aN S ≠ 0 ∧ r = shF S)) (mq_X G A (fun E g => E = "java/lang/ArithmeticException" ∧ f = g ∧ aL S * aN S = 0)) 1 6 A := by
  refine vx_ofW (cc := cX7_knownShare) (maxL := 5) (ret := (some .float)) (by decide) rfl ?_
  intro p e s m args below meth c s₁ B hml ht9 hv
  obtain ⟨rfl, ⟨hK, hZ, hM, hA⟩, hp⟩ := hv
  have hx := B.exec
  have hb := B.bytes
  have hr := B.returns
  have hts := atoms_spec (ws := wsX7_knownShare) B.pre
  have hown : s.vm.findClass RX7 = some m.cls := findClass_of_methodNamed B.named
  have hlocks := B.notSynchronized
  have hS : va_S A s.heap s.heap [] := va_S.rf
  have hl := lv_entry ([.ref (ad 0 0 0)]) (n := 5) (Nat.le_of_ble_eq_true rfl)
  rw [lg_entry_eq]
  generalize (lg_sl ([.ref (ad 0 0 0)]) ++ List.replicate (5 - (lg_sl ([.ref (ad 0 0 0)])).length) Slot.unset).toArray = ls at hl ⊢
  have hl : lv_has ls 5 [(0, .ref (ad 0 0 0))] := hl
  have w0 := hts (.fieldLink RX7 66 "Tutorlight" "learnerCount" "I") (List.mem_of_getElem? (i := 3) rfl)
  have w1 := hts (.fieldLink RX7 32 "Tutorlight" "skillCount" "I") (List.mem_of_getElem? (i := 4) rfl)
  have w2 := hts (.fieldLink RX7 17 "Tutorlight" "learners" "[LTutorlight$Learner;") (List.mem_of_getElem? (i := 5) rfl)
  have w3 := hts (.fieldLink RX7 80 "Tutorlight$Learner" "masteries" "[LTutorlight$Mastery;") (List.mem_of_getElem? (i := 6) rfl)
  have w4 := hts (.fieldLink RX7 96 "Tutorlight$Mastery" "odds" "I") (List.mem_of_getElem? (i := 7) rfl)
  have w5 := hts (.classLink RX7 120 "java/lang/ArithmeticException") (List.mem_of_getElem? (i := 1) rfl)
  have w6 := hts (.initialized "java/lang/ArithmeticException") (List.mem_of_getElem? (i := 2) rfl)
  have nX7 : ∀ w ∈ wsX70, w ∈ wsX7_knownShare := fun _ h => List.mem_cons_of_mem _ (List.mem_append_left _ (List.mem_append_left _ (List.mem_append_left _ (List.mem_append_right _ h))))
  have nX3 : ∀ w ∈ wsX30, w ∈ wsX7_knownShare := fun _ h => List.mem_cons_of_mem _ (List.mem_append_left _ (List.mem_append_left _ (List.mem_append_right _ h)))
  have nX4 : ∀ w ∈ wsX40, w ∈ wsX7_knownShare := fun _ h => List.mem_cons_of_mem _ (List.mem_append_left _ (List.mem_append_right _ h))
  obtain ⟨hR, hO⟩ := hp
  have hLN := prd_le hO.1.2.1 hO.1.1
  obtain ⟨⟨hn, hl4, hd2, hT⟩, hsk, hma, hdc, hle, hxb⟩ := id hO
  have y0_80 := hR.1 _ _ _ _ (t0)
  have y2_81 := hR.1 _ _ _ _ (t2)
  refine lv_aload_n hx hb dX7_knownShare_0 rfl (lv_at hl 0 rfl) ?_
  refine mq_get (ci := 12) (v := .int (nI (aL S))) (C := RX7) (T := TX7) (N := 6) hx hb hts nX7 hown hK hM y0_80 rfl 4 (by decide) w0 (fun _ h9 => h9) rfl dX7_knownShare_1 ?_
  refine lv_aload_n hx hb dX7_knownShare_4 rfl (lv_at hl 0 rfl) ?_
  refine mq_get (ci := 12) (v := .int (nI (aN S))) (C := RX7) (T := TX7) (N := 6) hx hb hts nX7 hown hK hM y0_80 rfl 3 (by decide) w1 (fun _ h9 => h9) rfl dX7_knownShare_5 ?_
  refine lv_imul hx hb dX7_knownShare_8 ?_
  rw [show (nI (aL S)) * (nI (aN S)) = nI ((aL S) * (aN S)) from pk_mul _ _]
  refine lv_istore_n (lv' := [(1, .int (nI ((aL S) * (aN S)))), (0, .ref (ad 0 0 0))]) hx hb dX7_knownShare_9 rfl hl (by decide) rfl (fun ls hl => ?_)
  refine lv_iload_n hx hb dX7_knownShare_10 rfl (lv_at hl 0 rfl) ?_
  refine lv_if_ne (tgt := 24) hx hb dX7_knownShare_11 (by decide) (fun c_11 => ?_) (fun c_11 => ?_)
  · replace c_11 : ¬ nI ((aL S) * (aN S)) = nI 0 := c_11
    rw [nI_eq (by omega) (by omega)] at c_11
    refine lv_iconst (v := 0) hx hb dX7_knownShare_24 (by decide) ?_
    refine lv_istore_n (lv' := [(2, .int 0), (1, .int (nI ((aL S) * (aN S)))), (0, .ref (ad 0 0 0))]) hx hb dX7_knownShare_25 rfl hl (by decide) rfl (fun ls hl => ?_)
    refine lv_iconst (v := 0) hx hb dX7_knownShare_26 (by decide) ?_
    refine lv_istore_n (lv' := [(3, .int 0), (2, .int 0), (1, .int (nI ((aL S) * (aN S)))), (0, .ref (ad 0 0 0))]) hx hb dX7_knownShare_27 rfl hl (by decide) rfl (fun ls hl => ?_)
    have K28 : ∀ (n9 : Nat) (j kn : Nat), (aL S - j) < n9 → (j ≤ aL S) → (kn = knC S j) → (kn ≤ 10 * j) → ∀ (H : Heap) (locs : List Loc), mq_W G.1 A f H → va_S A s.heap H locs → ∀ (ls : Array Slot), lv_has ls 5 [(0, .ref (ad 0 0 0)), (1, .int (nI (aL S * aN S))), (2, .int (nI kn)), (3, .int (nI j))] → W p l e (headSpec wsX7_knownShare ({ frames := 7, cells := 1, slots := 6, locals := 120 } : Room)).room s m ([.ref (ad 0 0 0)] : List Value).toArray below meth c H locs 0 0 (vx_MQ below (mq_Qf G A (fun r g => f = g ∧ aL S * aN S ≠ 0 ∧ r = shF S)) (mq_X G A (fun E g => E = "java/lang/ArithmeticException" ∧ f = g ∧ aL S * aN S = 0)) ([.ref (ad 0 0 0)] : List Value).toArray s 1 6 A) (F0 m 28 ls []) := by
      intro n9
      induction n9 with
      | zero => intro j kn hn9; exact absurd hn9 (Nat.not_lt_zero _)
      | succ n9 ih28 =>
        intro j kn hn9 hj9 hs9 hkb H locs hM hS ls hl
        refine lv_iload_n hx hb dX7_knownShare_28 rfl (lv_at hl 3 rfl) ?_
        refine lv_aload_n hx hb dX7_knownShare_29 rfl (lv_at hl 0 rfl) ?_
        refine mq_get (ci := 12) (v := .int (nI (aL S))) (C := RX7) (T := TX7) (N := 6) hx hb hts nX7 hown hK hM y0_80 rfl 4 (by decide) w0 (fun _ h9 => h9) rfl dX7_knownShare_30 ?_
        refine lv_icmp_ge (tgt := 84) hx hb dX7_knownShare_33 (by decide) (fun c_33 => ?_) (fun c_33 => ?_)
        · replace c_33 : nI (aL S) ≤ nI j := c_33
          rw [nI_leI (by omega) (by omega)] at c_33
          refine lv_iload_n hx hb dX7_knownShare_84 rfl (lv_at hl 2 rfl) ?_
          refine lv_i2f hx hb dX7_knownShare_85 ?_
          refine lv_iload_n hx hb dX7_knownShare_86 rfl (lv_at hl 1 rfl) ?_
          refine lv_i2f hx hb dX7_knownShare_87 ?_
          refine lv_fdiv hx hb dX7_knownShare_88 (sh_nan (aL S * aN S) (by omega) c_11 kn (by omega)) ?_
          refine vx_ret ?_
          refine W.widen (k := 1) (n := 6) (Nat.le_of_ble_eq_true rfl) (Nat.le_of_ble_eq_true rfl) ?_
          exact mq_fret hx hb hr hlocks hM hS (⟨rfl, c_11, by rw [hs9, show j = aL S by omega]; rfl⟩) dX7_knownShare_89
        · replace c_33 : ¬ nI (aL S) ≤ nI j := c_33
          rw [nI_leI (by omega) (by omega)] at c_33
          refine lv_iconst (v := 0) hx hb dX7_knownShare_36 (by decide) ?_
          refine lv_istore (lv' := [(4, .int 0), (0, .ref (ad 0 0 0)), (1, .int (nI (aL S * aN S))), (2, .int (nI kn)), (3, .int (nI j))]) hx hb dX7_knownShare_37 hl (by decide) rfl (fun ls hl => ?_)
          have K39 : ∀ (n9 : Nat) (i cn : Nat), (aN S - i) < n9 → (i ≤ aN S) → (cn = kn + cntB (fun i => decide (700 ≤ mOd (aM S j i))) i) → (cn ≤ 10 * j + i) → ∀ (H : Heap) (locs : List Loc), mq_W G.1 A f H → va_S A s.heap H locs → ∀ (ls : Array Slot), lv_has ls 5 [(0, .ref (ad 0 0 0)), (1, .int (nI (aL S * aN S))), (2, .int (nI cn)), (3, .int (nI j)), (4, .int (nI i))] → W p l e (headSpec wsX7_knownShare ({ frames := 7, cells := 1, slots := 6, locals := 120 } : Room)).room s m ([.ref (ad 0 0 0)] : List Value).toArray below meth c H locs 0 0 (vx_MQ below (mq_Qf G A (fun r g => f = g ∧ aL S * aN S ≠ 0 ∧ r = shF S)) (mq_X G A (fun E g => E = "java/lang/ArithmeticException" ∧ f = g ∧ aL S * aN S = 0)) ([.ref (ad 0 0 0)] : List Value).toArray s 1 6 A) (F0 m 39 ls []) := by
            intro n9
            induction n9 with
            | zero => intro i cn hn9; exact absurd hn9 (Nat.not_lt_zero _)
            | succ n9 ih39 =>
              intro i cn hn9 hi hs8 hcb H locs hM hS ls hl
              refine lv_iload hx hb dX7_knownShare_39 (lv_at hl 4 rfl) ?_
              refine lv_aload_n hx hb dX7_knownShare_41 rfl (lv_at hl 0 rfl) ?_
              refine mq_get (ci := 12) (v := .int (nI (aN S))) (C := RX7) (T := TX7) (N := 6) hx hb hts nX7 hown hK hM y0_80 rfl 3 (by decide) w1 (fun _ h9 => h9) rfl dX7_knownShare_42 ?_
              refine lv_icmp_ge (tgt := 78) hx hb dX7_knownShare_45 (by decide) (fun c_45 => ?_) (fun c_45 => ?_)
              · replace c_45 : nI (aN S) ≤ nI i := c_45
                rw [nI_leI (by omega) (by omega)] at c_45
                refine lv_iinc (v := nI (j + 1)) (lv' := [(3, .int (nI (j + 1))), (0, .ref (ad 0 0 0)), (1, .int (nI (aL S * aN S))), (2, .int (nI cn)), (4, .int (nI i))]) hx hb dX7_knownShare_78 hl (k := 3) rfl (nI_add _ _) (by decide) rfl (fun ls hl => ?_)
                refine lv_goto (tgt := 28) hx hb dX7_knownShare_81 (by decide) ?_
                exact ih28 (j + 1) cn (by omega) (by omega) (by rw [hs8, hs9, show i = aN S by omega]; rfl) (by omega) _ _ hM hS _ (lv_sub hl [1, 2, 3, 0] rfl)
              · replace c_45 : ¬ nI (aN S) ≤ nI i := c_45
                rw [nI_leI (by omega) (by omega)] at c_45
                obtain ⟨m1, m2, m3, m4, m5, m6, m7, m8⟩ := hma j i (by omega) (by omega)
                have y5_77 := hR.1 _ _ _ _ (t5 (j := j) (by omega))
                have y6_78 := hR.1 _ _ _ _ (t6 (j := j) (by omega))
                have y7_79 := hR.1 _ _ _ _ (t7 (j := j) (k := i) (by omega) (by omega))
                refine lv_aload_n hx hb dX7_knownShare_48 rfl (lv_at hl 0 rfl) ?_
                refine mq_get (ci := 12) (v := .ref (ad 2 0 0)) (C := RX7) (T := TX7) (N := 6) hx hb hts nX7 hown hK hM y0_80 rfl 1 (by decide) w2 (fun _ h9 => h9) rfl dX7_knownShare_49 ?_
                refine lv_iload_n hx hb dX7_knownShare_52 rfl (lv_at hl 3 rfl) ?_
                refine mq_aald (t0 := 4) (v := .ref (ad 5 j 0)) hx hb hK hM rfl y2_81 (vp_in_nI (by omega) (by omega)) (by rw [show (nI j : Int32).toNatClampNeg = j from nI_clamp (by omega)]; exact congrArg va_rf (rf_at (by omega))) dX7_knownShare_53 ?_
                refine mq_get (ci := 8) (v := .ref (ad 6 j 0)) (C := RX3) (T := TX3) (N := 5) hx hb hts nX3 hown hK hM y5_77 rfl 0 (by decide) w3 (fun _ h9 => h9) rfl dX7_knownShare_54 ?_
                refine lv_iload hx hb dX7_knownShare_57 (lv_at hl 4 rfl) ?_
                refine mq_aald (t0 := 5) (v := .ref (ad 7 j i)) hx hb hK hM rfl y6_78 (vp_in_nI (by omega) (by omega)) (by rw [show (nI i : Int32).toNatClampNeg = i from nI_clamp (by omega)]; exact congrArg va_rf (rf_at (by omega))) dX7_knownShare_59 ?_
                refine mq_get (ci := 9) (v := .int (nI (mOd (aM S j i)))) (C := RX4) (T := TX4) (N := 7) hx hb hts nX4 hown hK hM y7_79 rfl 0 (by decide) w4 (fun _ h9 => h9) rfl dX7_knownShare_60 ?_
                refine lv_sipush (v := 700) hx hb dX7_knownShare_63 (by decide) ?_
                refine lv_icmp_lt (tgt := 72) hx hb dX7_knownShare_66 (by decide) (fun c_66 => ?_) (fun c_66 => ?_)
                · replace c_66 : nI (mOd (aM S j i)) < nI 700 := c_66
                  rw [nI_ltI (by omega) (by omega)] at c_66
                  refine lv_iinc (v := nI (i + 1)) (lv' := [(4, .int (nI (i + 1))), (0, .ref (ad 0 0 0)), (1, .int (nI (aL S * aN S))), (2, .int (nI cn)), (3, .int (nI j))]) hx hb dX7_knownShare_72 hl (k := 4) rfl (nI_add _ _) (by decide) rfl (fun ls hl => ?_)
                  refine lv_goto (tgt := 39) hx hb dX7_knownShare_75 (by decide) ?_
                  exact ih39 (i + 1) cn (by omega) (by omega) (by rw [cntB_f (by simp; omega), hs8]; try omega) (by omega) _ _ hM hS _ (lv_sub hl [1, 2, 3, 4, 0] rfl)
                · replace c_66 : ¬ nI (mOd (aM S j i)) < nI 700 := c_66
                  rw [nI_ltI (by omega) (by omega)] at c_66
                  refine lv_iinc (v := nI (cn + 1)) (lv' := [(2, .int (nI (cn + 1))), (0, .ref (ad 0 0 0)), (1, .int (nI (aL S * aN S))), (3, .int (nI j)), (4, .int (nI i))]) hx hb dX7_knownShare_69 hl (k := 2) rfl (nI_add _ _) (by decide) rfl (fun ls hl => ?_)
                  refine lv_iinc (v := nI (i + 1)) (lv' := [(4, .int (nI (i + 1))), (2, .int (nI (cn + 1))), (0, .ref (ad 0 0 0)), (1, .int (nI (aL S * aN S))), (3, .int (nI j))]) hx hb dX7_knownShare_72 hl (k := 4) rfl (nI_add _ _) (by decide) rfl (fun ls hl => ?_)
                  refine lv_goto (tgt := 39) hx hb dX7_knownShare_75 (by decide) ?_
                  exact ih39 (i + 1) (cn + 1) (by omega) (by omega) (by rw [cntB_t (by simp; omega), hs8]; try omega) (by omega) _ _ hM hS _ (lv_sub hl [2, 3, 1, 4, 0] rfl)
          exact K39 _ 0 kn (Nat.lt_succ_self _) (Nat.zero_le _) (rfl) (hkb) _ _ hM hS _ (lv_sub hl [1, 2, 3, 4, 0] rfl)
    exact K28 _ 0 0 (Nat.lt_succ_self _) (Nat.zero_le _) (rfl) (Nat.le_refl _) _ _ hM hS _ (lv_sub hl [3, 2, 1, 0] rfl)
  · replace c_11 : nI ((aL S) * (aN S)) = nI 0 := c_11
    rw [nI_eq (by omega) (by omega)] at c_11
    obtain ⟨sa, hsa⟩ := mq_str hZ (own := RX7) (k := 236) (tx := "no odds") (by decide +kernel)
    refine vx_throwS (A := A) (own := RX7) (cls := "java/lang/ArithmeticException") (text := "no odds") (names := ["java/lang/RuntimeException", "java/lang/Exception"]) (ik := 120) (is := 236) (ic := 124) hx hb hfl hown (by decide +kernel) (by decide +kernel) w5 w6 hsa (mq_hat hZ (fun w h => hts w (List.mem_cons_of_mem _ (List.mem_append_right _ h))) (by decide +kernel)) (by decide +kernel) hZ.1.1 hZ.1.2 hS (by rw [hml]; exact hl.1) dX7_knownShare_14 dX7_knownShare_17 dX7_knownShare_18 dX7_knownShare_20 dX7_knownShare_23 (fun x hx => (ht9 x hx).elim) (Nat.le_of_ble_eq_true rfl) (Nat.le_of_ble_eq_true rfl) (Nat.le_of_ble_eq_true rfl) (Nat.le_of_ble_eq_true rfl) hlocks (fun t9 hv9 hz9 hq9 => mq_thrown hM hS hz9 hq9 (⟨rfl, rfl, c_11⟩)) hS.2.2 (Nat.le_of_ble_eq_true rfl) (Nat.le_of_ble_eq_true rfl)

set_option maxHeartbeats 4000000 in
set_option maxRecDepth 100000 in
theorem c_X7_meanOdds (l : Launch) (hfl : l.stackTraces = false) (G : mq_G) (A : Nat → Prop) (f : mq_F) (ad : AD) (S : AT) (X : CX) (S2 : AT) (Y : MX) (O : OX) (T : Nat) (ua : Int32) : vx_Met l yX7_meanOdds wsX7_meanOdds ({ frames := 8, cells := 2, slots := 12, locals := 141 } : Room) (mq_Pc G A f (WR G f ad S X S2 Y O ∧ cOK S X T) [.ref (ad 0 0 0), .int ua]) (mq_Qd G A (fun r g => f = g ∧ spMean S ua = (0, r))) (mq_X G A (fun E g => f = g ∧ ((spMean S ua).1 = 1 ∧ E = "java/lang/IndexOutOfBoundsException" ∨ (spMean S ua).1 = 2 ∧ E = "java/lang/ArithmeticException"))) 2 12 A := by
  refine vx_ofW (cc := cX7_meanOdds) (maxL := 4) (ret := (some .double)) (by decide) rfl ?_
  intro p e s m args below meth c s₁ B hml ht9 hv
  obtain ⟨rfl, ⟨hK, hZ, hM, hA⟩, hp⟩ := hv
  have hx := B.exec
  have hb := B.bytes
  have hr := B.returns
  have hts := atoms_spec (ws := wsX7_meanOdds) B.pre
  have hown : s.vm.findClass RX7 = some m.cls := findClass_of_methodNamed B.named
  have hlocks := B.notSynchronized
  have hS : va_S A s.heap s.heap [] := va_S.rf
  have hl := lv_entry ([.ref (ad 0 0 0), .int ua]) (n := 4) (Nat.le_of_ble_eq_true rfl)
  rw [lg_entry_eq]
  generalize (lg_sl ([.ref (ad 0 0 0), .int ua]) ++ List.replicate (4 - (lg_sl ([.ref (ad 0 0 0), .int ua])).length) Slot.unset).toArray = ls at hl ⊢
  have hl : lv_has ls 4 [(0, .ref (ad 0 0 0)), (1, .int ua)] := hl
  have w0 := hts (.fieldLink RX7 66 "Tutorlight" "learnerCount" "I") (List.mem_of_getElem? (i := 3) rfl)
  have w1 := hts (.fieldLink RX7 17 "Tutorlight" "learners" "[LTutorlight$Learner;") (List.mem_of_getElem? (i := 4) rfl)
  have w2 := hts (.fieldLink RX7 80 "Tutorlight$Learner" "masteries" "[LTutorlight$Mastery;") (List.mem_of_getElem? (i := 5) rfl)
  have w3 := hts (.fieldLink RX7 96 "Tutorlight$Mastery" "odds" "I") (List.mem_of_getElem? (i := 6) rfl)
  have w4 := hts (.classLink RX7 120 "java/lang/ArithmeticException") (List.mem_of_getElem? (i := 1) rfl)
  have w5 := hts (.initialized "java/lang/ArithmeticException") (List.mem_of_getElem? (i := 2) rfl)
  have nX7 : ∀ w ∈ wsX70, w ∈ wsX7_meanOdds := fun _ h => List.mem_cons_of_mem _ (List.mem_append_left _ (List.mem_append_left _ (List.mem_append_left _ (List.mem_append_left _ (List.mem_append_right _ h)))))
  have nX3 : ∀ w ∈ wsX30, w ∈ wsX7_meanOdds := fun _ h => List.mem_cons_of_mem _ (List.mem_append_left _ (List.mem_append_left _ (List.mem_append_left _ (List.mem_append_right _ h))))
  have nX4 : ∀ w ∈ wsX40, w ∈ wsX7_meanOdds := fun _ h => List.mem_cons_of_mem _ (List.mem_append_left _ (List.mem_append_left _ (List.mem_append_right _ h)))
  obtain ⟨hR, hO⟩ := hp
  obtain ⟨⟨hn, hl4, hd2, hT⟩, hsk, hma, hdc, hle, hxb⟩ := id hO
  have y0_85 := hR.1 _ _ _ _ (t0)
  have y2_86 := hR.1 _ _ _ _ (t2)
  refine lv_aload_n hx hb dX7_meanOdds_0 rfl (lv_at hl 0 rfl) ?_
  refine lv_iload_n hx hb dX7_meanOdds_1 rfl (lv_at hl 1 rfl) ?_
  refine mq_xcallq (vx_runV (As := [.int ua]) (rest := []) ⟨hx, hb, hml, hown, hts⟩ (c_X7_skillAt l hfl G A f ad S X S2 Y O T ua) (cwV 1 hts gX7_meanOdds_X7_skillAt rfl rfl rfl (by decide +kernel) ⟨Nat.le_of_ble_eq_true rfl, Nat.le_of_ble_eq_true rfl⟩) (mq_preV hK hZ hS hA hM (q := (RX7, TX7, 6)) y0_85 rfl (⟨hR, hO⟩) _) rfl rfl hl.1 rfl (lv_room (Nat.le_of_ble_eq_true rfl)) dX7_meanOdds_2 ⟨Nat.le_of_ble_eq_true rfl, Nat.le_of_ble_eq_true rfl⟩) hS (fun E ce q9 g2 H locs p2 hM hS hce hcv hcl => ?_) (fun r2 g2 H locs p2 hM hS => ?_)
  · obtain ⟨rfl, rfl, q9⟩ := p2
    exact mq_out (List.eq_nil_iff_forall_not_mem.mpr fun x hx => ht9 x hx) hlocks hce hcv hcl hM hS (⟨rfl, Or.inl (⟨congrArg Prod.fst (spK_n q9), rfl⟩)⟩) (Nat.le_of_ble_eq_true rfl) (Nat.le_of_ble_eq_true rfl)
  refine W.widen (k := 1) (n := 6) (Nat.le_of_ble_eq_true rfl) (Nat.le_of_ble_eq_true rfl) ?_
  obtain ⟨rfl, k, hk, rfl, rfl⟩ := p2
  refine lv_pop hx hb dX7_meanOdds_5 rfl ?_
  refine lv_aload_n hx hb dX7_meanOdds_6 rfl (lv_at hl 0 rfl) ?_
  refine mq_get (ci := 12) (v := .int (nI (aL S))) (C := RX7) (T := TX7) (N := 6) hx hb hts nX7 hown hK hM y0_85 rfl 4 (by decide) w0 (fun _ h9 => h9) rfl dX7_meanOdds_7 ?_
  refine lv_if_ne (tgt := 23) hx hb dX7_meanOdds_10 (by decide) (fun c_10 => ?_) (fun c_10 => ?_)
  · replace c_10 : ¬ nI (aL S) = nI 0 := c_10
    rw [nI_eq (by omega) (by omega)] at c_10
    refine lv_iconst (v := 0) hx hb dX7_meanOdds_23 (by decide) ?_
    refine lv_istore_n (lv' := [(2, .int 0), (0, .ref (ad 0 0 0)), (1, .int (nI k))]) hx hb dX7_meanOdds_24 rfl hl (by decide) rfl (fun ls hl => ?_)
    refine lv_iconst (v := 0) hx hb dX7_meanOdds_25 (by decide) ?_
    refine lv_istore_n (lv' := [(3, .int 0), (2, .int 0), (0, .ref (ad 0 0 0)), (1, .int (nI k))]) hx hb dX7_meanOdds_26 rfl hl (by decide) rfl (fun ls hl => ?_)
    have K27 : ∀ (n9 : Nat) (j sm : Nat), (aL S - j) < n9 → (j ≤ aL S) → (sm = smO S k j) → (sm ≤ 1000 * j) → ∀ (H : Heap) (locs : List Loc), mq_W G.1 A f H → va_S A s.heap H locs → ∀ (ls : Array Slot), lv_has ls 4 [(0, .ref (ad 0 0 0)), (1, .int (nI k)), (2, .int (nI sm)), (3, .int (nI j))] → W p l e (headSpec wsX7_meanOdds ({ frames := 8, cells := 2, slots := 12, locals := 141 } : Room)).room s m ([.ref (ad 0 0 0), .int (nI k)] : List Value).toArray below meth c H locs 1 6 (vx_MQ below (mq_Qd G A (fun r g => f = g ∧ spMean S (nI k) = (0, r))) (mq_X G A (fun E g => f = g ∧ ((spMean S (nI k)).1 = 1 ∧ E = "java/lang/IndexOutOfBoundsException" ∨ (spMean S (nI k)).1 = 2 ∧ E = "java/lang/ArithmeticException"))) ([.ref (ad 0 0 0), .int (nI k)] : List Value).toArray s 2 12 A) (F0 m 27 ls []) := by
      intro n9
      induction n9 with
      | zero => intro j sm hn9; exact absurd hn9 (Nat.not_lt_zero _)
      | succ n9 ih27 =>
        intro j sm hn9 hj9 hs9 hkb H locs hM hS ls hl
        refine lv_iload_n hx hb dX7_meanOdds_27 rfl (lv_at hl 3 rfl) ?_
        refine lv_aload_n hx hb dX7_meanOdds_28 rfl (lv_at hl 0 rfl) ?_
        refine mq_get (ci := 12) (v := .int (nI (aL S))) (C := RX7) (T := TX7) (N := 6) hx hb hts nX7 hown hK hM y0_85 rfl 4 (by decide) w0 (fun _ h9 => h9) rfl dX7_meanOdds_29 ?_
        refine lv_icmp_ge (tgt := 58) hx hb dX7_meanOdds_32 (by decide) (fun c_32 => ?_) (fun c_32 => ?_)
        · replace c_32 : nI (aL S) ≤ nI j := c_32
          rw [nI_leI (by omega) (by omega)] at c_32
          refine lv_iload_n hx hb dX7_meanOdds_58 rfl (lv_at hl 2 rfl) ?_
          refine lv_i2d hx hb dX7_meanOdds_59 ?_
          refine lv_aload_n hx hb dX7_meanOdds_60 rfl (lv_at hl 0 rfl) ?_
          refine mq_get (ci := 12) (v := .int (nI (aL S))) (C := RX7) (T := TX7) (N := 6) hx hb hts nX7 hown hK hM y0_85 rfl 4 (by decide) w0 (fun _ h9 => h9) rfl dX7_meanOdds_61 ?_
          refine lv_i2d hx hb dX7_meanOdds_64 ?_
          refine lv_ddiv hx hb dX7_meanOdds_65 (mn_nan (aL S) (by omega) c_10 sm (by omega)) ?_
          refine vx_ret ?_
          refine W.widen (k := 2) (n := 12) (Nat.le_of_ble_eq_true rfl) (Nat.le_of_ble_eq_true rfl) ?_
          exact mq_dret hx hb hr hlocks hM hS (⟨rfl, (spK_y hk hn).trans (by rw [if_neg c_10, hs9, show j = aL S by omega]; rfl)⟩) dX7_meanOdds_66
        · replace c_32 : ¬ nI (aL S) ≤ nI j := c_32
          rw [nI_leI (by omega) (by omega)] at c_32
          obtain ⟨m1, m2, m3, m4, m5, m6, m7, m8⟩ := hma j k (by omega) (by omega)
          have y5_82 := hR.1 _ _ _ _ (t5 (j := j) (by omega))
          have y6_83 := hR.1 _ _ _ _ (t6 (j := j) (by omega))
          have y7_84 := hR.1 _ _ _ _ (t7 (j := j) (k := k) (by omega) (by omega))
          refine lv_iload_n hx hb dX7_meanOdds_35 rfl (lv_at hl 2 rfl) ?_
          refine lv_aload_n hx hb dX7_meanOdds_36 rfl (lv_at hl 0 rfl) ?_
          refine mq_get (ci := 12) (v := .ref (ad 2 0 0)) (C := RX7) (T := TX7) (N := 6) hx hb hts nX7 hown hK hM y0_85 rfl 1 (by decide) w1 (fun _ h9 => h9) rfl dX7_meanOdds_37 ?_
          refine lv_iload_n hx hb dX7_meanOdds_40 rfl (lv_at hl 3 rfl) ?_
          refine mq_aald (t0 := 4) (v := .ref (ad 5 j 0)) hx hb hK hM rfl y2_86 (vp_in_nI (by omega) (by omega)) (by rw [show (nI j : Int32).toNatClampNeg = j from nI_clamp (by omega)]; exact congrArg va_rf (rf_at (by omega))) dX7_meanOdds_41 ?_
          refine mq_get (ci := 8) (v := .ref (ad 6 j 0)) (C := RX3) (T := TX3) (N := 5) hx hb hts nX3 hown hK hM y5_82 rfl 0 (by decide) w2 (fun _ h9 => h9) rfl dX7_meanOdds_42 ?_
          refine lv_iload_n hx hb dX7_meanOdds_45 rfl (lv_at hl 1 rfl) ?_
          refine mq_aald (t0 := 5) (v := .ref (ad 7 j k)) hx hb hK hM rfl y6_83 (vp_in_nI (by omega) (by omega)) (by rw [show (nI k : Int32).toNatClampNeg = k from nI_clamp (by omega)]; exact congrArg va_rf (rf_at (by omega))) dX7_meanOdds_46 ?_
          refine mq_get (ci := 9) (v := .int (nI (mOd (aM S j k)))) (C := RX4) (T := TX4) (N := 7) hx hb hts nX4 hown hK hM y7_84 rfl 0 (by decide) w3 (fun _ h9 => h9) rfl dX7_meanOdds_47 ?_
          refine lv_iadd hx hb dX7_meanOdds_50 ?_
          rw [show (nI sm) + (nI (mOd (aM S j k))) = nI (sm + (mOd (aM S j k))) from nI_add _ _]
          refine lv_istore_n (lv' := [(2, .int (nI (sm + (mOd (aM S j k))))), (0, .ref (ad 0 0 0)), (1, .int (nI k)), (3, .int (nI j))]) hx hb dX7_meanOdds_51 rfl hl (by decide) rfl (fun ls hl => ?_)
          refine lv_iinc (v := nI (j + 1)) (lv' := [(3, .int (nI (j + 1))), (2, .int (nI (sm + (mOd (aM S j k))))), (0, .ref (ad 0 0 0)), (1, .int (nI k))]) hx hb dX7_meanOdds_52 hl (k := 3) rfl (nI_add _ _) (by decide) rfl (fun ls hl => ?_)
          refine lv_goto (tgt := 27) hx hb dX7_meanOdds_55 (by decide) ?_
          exact ih27 (j + 1) (sm + mOd (aM S j k)) (by omega) (by omega) (by rw [hs9]; rfl) (by omega) _ _ hM hS _ (lv_sub hl [2, 3, 1, 0] rfl)
    exact K27 _ 0 0 (Nat.lt_succ_self _) (Nat.zero_le _) (rfl) (Nat.le_refl _) _ _ hM hS _ (lv_sub hl [2, 3, 1, 0] rfl)
  · replace c_10 : nI (aL S) = nI 0 := c_10
    rw [nI_eq (by omega) (by omega)] at c_10
    obtain ⟨sa, hsa⟩ := mq_str hZ (own := RX7) (k := 238) (tx := "no learners") (by decide +kernel)
    refine vx_throwS (A := A) (own := RX7) (cls := "java/lang/ArithmeticException") (text := "no learners") (names := ["java/lang/RuntimeException", "java/lang/Exception"]) (ik := 120) (is := 238) (ic := 124) hx hb hfl hown (by decide +kernel) (by decide +kernel) w4 w5 hsa (mq_hat hZ (fun w h => hts w (List.mem_cons_of_mem _ (List.mem_append_left _ (List.mem_append_right _ h)))) (by decide +kernel)) (by decide +kernel) hZ.1.1 hZ.1.2 hS (by rw [hml]; exact hl.1) dX7_meanOdds_13 dX7_meanOdds_16 dX7_meanOdds_17 dX7_meanOdds_19 dX7_meanOdds_22 (fun x hx => (ht9 x hx).elim) (Nat.le_of_ble_eq_true rfl) (Nat.le_of_ble_eq_true rfl) (Nat.le_of_ble_eq_true rfl) (Nat.le_of_ble_eq_true rfl) hlocks (fun t9 hv9 hz9 hq9 => mq_thrown hM hS hz9 hq9 (⟨rfl, Or.inr (⟨congrArg Prod.fst (show spMean S (nI k) = ((2, 0) : Nat × UInt64) from (spK_y hk hn).trans (if_pos c_10)), rfl⟩)⟩)) hS.2.2 (Nat.le_of_ble_eq_true rfl) (Nat.le_of_ble_eq_true rfl)

set_option maxHeartbeats 4000000 in
set_option maxRecDepth 100000 in
theorem c_X7_neededByAny (l : Launch) (G : mq_G) (A : Nat → Prop) (f : mq_F) (ad : AD) (S : AT) (X : CX) (S2 : AT) (Y : MX) (O : OX) (T : Nat) (r9 : Nat) : Met l yX7_neededByAny wsX7_neededByAny ({ frames := 0, cells := 0, slots := 0, locals := 0 } : Room) (mq_Pc G A f (WR G f ad S X S2 Y O ∧ cOK S X T ∧ r9 < 1024) [.ref (ad 0 0 0), .int (nI r9)]) (mq_Qi G A (fun r g => f = g ∧ r = nI (nbL S r9 (aN S)))) 0 0 A := by
  refine Met.ofW (cc := cX7_neededByAny) (maxL := 4) (ret := (some .int)) (by decide) rfl ?_
  intro p e s m args below meth c s₁ B hml hv
  obtain ⟨rfl, ⟨hK, hZ, hM, hA⟩, hp⟩ := hv
  have hx := B.exec
  have hb := B.bytes
  have hr := B.returns
  have hts := atoms_spec (ws := wsX7_neededByAny) B.pre
  have hown : s.vm.findClass RX7 = some m.cls := findClass_of_methodNamed B.named
  have hlocks := B.notSynchronized
  have hS : va_S A s.heap s.heap [] := va_S.rf
  have hl := lv_entry ([.ref (ad 0 0 0), .int (nI r9)]) (n := 4) (Nat.le_of_ble_eq_true rfl)
  rw [lg_entry_eq]
  generalize (lg_sl ([.ref (ad 0 0 0), .int (nI r9)]) ++ List.replicate (4 - (lg_sl ([.ref (ad 0 0 0), .int (nI r9)])).length) Slot.unset).toArray = ls at hl ⊢
  have hl : lv_has ls 4 [(0, .ref (ad 0 0 0)), (1, .int (nI r9))] := hl
  have w0 := hts (.fieldLink RX7 32 "Tutorlight" "skillCount" "I") (List.mem_of_getElem? (i := 1) rfl)
  have w1 := hts (.fieldLink RX7 11 "Tutorlight" "skills" "[LTutorlight$Skill;") (List.mem_of_getElem? (i := 2) rfl)
  have w2 := hts (.fieldLink RX7 63 "Tutorlight$Skill" "neededSkills" "I") (List.mem_of_getElem? (i := 3) rfl)
  have nX7 : ∀ w ∈ wsX70, w ∈ wsX7_neededByAny := fun _ h => List.mem_cons_of_mem _ (List.mem_append_left _ (List.mem_append_right _ h))
  have nX5 : ∀ w ∈ wsX50, w ∈ wsX7_neededByAny := fun _ h => List.mem_cons_of_mem _ (List.mem_append_right _ h)
  obtain ⟨hR, hO, hr9⟩ := hp
  obtain ⟨⟨hn, hl4, hd2, hT⟩, hsk, hma, hdc, hle, hxb⟩ := id hO
  have y0_88 := hR.1 _ _ _ _ (t0)
  have y1_89 := hR.1 _ _ _ _ (t1)
  refine lv_iconst (v := 0) hx hb dX7_neededByAny_0 (by decide) ?_
  refine lv_istore_n (lv' := [(2, .int 0), (0, .ref (ad 0 0 0)), (1, .int (nI r9))]) hx hb dX7_neededByAny_1 rfl hl (by decide) rfl (fun ls hl => ?_)
  refine lv_iconst (v := 0) hx hb dX7_neededByAny_2 (by decide) ?_
  refine lv_istore_n (lv' := [(3, .int 0), (2, .int 0), (0, .ref (ad 0 0 0)), (1, .int (nI r9))]) hx hb dX7_neededByAny_3 rfl hl (by decide) rfl (fun ls hl => ?_)
  have K4 : ∀ (n9 : Nat) (i d : Nat), (aN S - i) < n9 → (i ≤ aN S) → (d = nbL S r9 i) → ∀ (H : Heap) (locs : List Loc), mq_W G.1 A f H → va_S A s.heap H locs → ∀ (ls : Array Slot), lv_has ls 4 [(0, .ref (ad 0 0 0)), (1, .int (nI r9)), (2, .int (nI d)), (3, .int (nI i))] → W p l e (headSpec wsX7_neededByAny ({ frames := 0, cells := 0, slots := 0, locals := 0 } : Room)).room s m ([.ref (ad 0 0 0), .int (nI r9)] : List Value).toArray below meth c H locs 0 0 (MQ below (mq_Qi G A (fun r g => f = g ∧ r = nI (nbL S r9 (aN S)))) ([.ref (ad 0 0 0), .int (nI r9)] : List Value).toArray s 0 0 A) (F0 m 4 ls []) := by
    intro n9
    induction n9 with
    | zero => intro i d hn9; exact absurd hn9 (Nat.not_lt_zero _)
    | succ n9 ih4 =>
      intro i d hn9 hi hq H locs hM hS ls hl
      refine lv_iload_n hx hb dX7_neededByAny_4 rfl (lv_at hl 3 rfl) ?_
      refine lv_aload_n hx hb dX7_neededByAny_5 rfl (lv_at hl 0 rfl) ?_
      refine mq_get (ci := 12) (v := .int (nI (aN S))) (C := RX7) (T := TX7) (N := 6) hx hb hts nX7 hown hK hM y0_88 rfl 3 (by decide) w0 (fun _ h9 => h9) rfl dX7_neededByAny_6 ?_
      refine lv_icmp_ge (tgt := 38) hx hb dX7_neededByAny_9 (by decide) (fun c_9 => ?_) (fun c_9 => ?_)
      · replace c_9 : nI (aN S) ≤ nI i := c_9
        rw [nI_leI (by omega) (by omega)] at c_9
        refine lv_iload_n hx hb dX7_neededByAny_38 rfl (lv_at hl 2 rfl) ?_
        exact mq_iret (v := nI d) hx hb hr hlocks hM hS (⟨rfl, by rw [hq, show i = aN S by omega]⟩) dX7_neededByAny_39
      · replace c_9 : ¬ nI (aN S) ≤ nI i := c_9
        rw [nI_leI (by omega) (by omega)] at c_9
        refine lv_iload_n hx hb dX7_neededByAny_12 rfl (lv_at hl 1 rfl) ?_
        refine lv_iload_n hx hb dX7_neededByAny_13 rfl (lv_at hl 3 rfl) ?_
        refine lv_ishr hx hb dX7_neededByAny_14 ?_
        refine lv_iconst (v := 1) hx hb dX7_neededByAny_15 (by decide) ?_
        refine lv_iand hx hb dX7_neededByAny_16 ?_
        rw [show ((nI r9) >>> ((nI i) &&& 31)) &&& 1 = zb (r9.testBit i) from nI_bit (by omega) (by omega)]
        refine lv_if_eq (tgt := 32) hx hb dX7_neededByAny_17 (by decide) (fun c_17 => ?_) (fun c_17 => ?_)
        · replace c_17 : zb (r9.testBit i) = 0 := c_17
          rw [zb_0] at c_17
          refine lv_iinc (v := nI (i + 1)) (lv' := [(3, .int (nI (i + 1))), (0, .ref (ad 0 0 0)), (1, .int (nI r9)), (2, .int (nI d))]) hx hb dX7_neededByAny_32 hl (k := 3) rfl (nI_add _ _) (by decide) rfl (fun ls hl => ?_)
          refine lv_goto (tgt := 4) hx hb dX7_neededByAny_35 (by decide) ?_
          exact ih4 (i + 1) d (by omega) (by omega) (by rw [hq]; exact (if_neg (by rw [c_17]; decide)).symm) _ _ hM hS _ (lv_sub hl [1, 2, 3, 0] rfl)
        · replace c_17 : ¬ zb (r9.testBit i) = 0 := c_17
          rw [zb_n0] at c_17
          have y4_87 := hR.1 _ _ _ _ (t4 (j := i) (by omega))
          refine lv_iload_n hx hb dX7_neededByAny_20 rfl (lv_at hl 2 rfl) ?_
          refine lv_aload_n hx hb dX7_neededByAny_21 rfl (lv_at hl 0 rfl) ?_
          refine mq_get (ci := 12) (v := .ref (ad 1 0 0)) (C := RX7) (T := TX7) (N := 6) hx hb hts nX7 hown hK hM y0_88 rfl 0 (by decide) w1 (fun _ h9 => h9) rfl dX7_neededByAny_22 ?_
          refine lv_iload_n hx hb dX7_neededByAny_25 rfl (lv_at hl 3 rfl) ?_
          refine mq_aald (t0 := 6) (v := .ref (ad 4 i 0)) hx hb hK hM rfl y1_89 (vp_in_nI (by omega) (by omega)) (by rw [show (nI i : Int32).toNatClampNeg = i from nI_clamp (by omega)]; exact congrArg va_rf (rf_at (by omega))) dX7_neededByAny_26 ?_
          refine mq_get (ci := 10) (v := .int (nI ((aS S i).2.2.2))) (C := RX5) (T := TX5) (N := 4) hx hb hts nX5 hown hK hM y4_87 rfl 3 (by decide) w2 (fun _ h9 => h9) rfl dX7_neededByAny_27 ?_
          refine lv_ior hx hb dX7_neededByAny_30 ?_
          rw [show (nI d) ||| (nI ((aS S i).2.2.2)) = nI (d ||| (aS S i).2.2.2) from or_nI _ _]
          refine lv_istore_n (lv' := [(2, .int (nI (d ||| (aS S i).2.2.2))), (0, .ref (ad 0 0 0)), (1, .int (nI r9)), (3, .int (nI i))]) hx hb dX7_neededByAny_31 rfl hl (by decide) rfl (fun ls hl => ?_)
          refine lv_iinc (v := nI (i + 1)) (lv' := [(3, .int (nI (i + 1))), (2, .int (nI (d ||| (aS S i).2.2.2))), (0, .ref (ad 0 0 0)), (1, .int (nI r9))]) hx hb dX7_neededByAny_32 hl (k := 3) rfl (nI_add _ _) (by decide) rfl (fun ls hl => ?_)
          refine lv_goto (tgt := 4) hx hb dX7_neededByAny_35 (by decide) ?_
          exact ih4 (i + 1) (d ||| (aS S i).2.2.2) (by omega) (by omega) (by rw [hq]; exact (if_pos c_17).symm) _ _ hM hS _ (lv_sub hl [2, 3, 1, 0] rfl)
  exact K4 _ 0 0 (Nat.lt_succ_self _) (Nat.zero_le _) (rfl) _ _ hM hS _ (lv_sub hl [2, 3, 1, 0] rfl)

set_option maxHeartbeats 4000000 in
set_option maxRecDepth 100000 in
theorem c_X7_comesToNeed (l : Launch) (G : mq_G) (A : Nat → Prop) (f : mq_F) (ad : AD) (S : AT) (X : CX) (S2 : AT) (Y : MX) (O : OX) (T : Nat) (a b : Nat) : Met l yX7_comesToNeed wsX7_comesToNeed ({ frames := 1, cells := 0, slots := 0, locals := 23 } : Room) (mq_Pc G A f (WR G f ad S X S2 Y O ∧ cOK S X T ∧ a < aN S ∧ b < aN S) [.ref (ad 0 0 0), .int (nI a), .int (nI b)]) (mq_Qi G A (fun r g => f = g ∧ r = zb ((ctn S a (aN S)).testBit b))) 0 0 A := by
  refine Met.ofW (cc := cX7_comesToNeed) (maxL := 5) (ret := (some .boolean)) (by decide) rfl ?_
  intro p e s m args below meth c s₁ B hml hv
  obtain ⟨rfl, ⟨hK, hZ, hM, hA⟩, hp⟩ := hv
  have hx := B.exec
  have hb := B.bytes
  have hr := B.returns
  have hts := atoms_spec (ws := wsX7_comesToNeed) B.pre
  have hown : s.vm.findClass RX7 = some m.cls := findClass_of_methodNamed B.named
  have hlocks := B.notSynchronized
  have hS : va_S A s.heap s.heap [] := va_S.rf
  have hl := lv_entry ([.ref (ad 0 0 0), .int (nI a), .int (nI b)]) (n := 5) (Nat.le_of_ble_eq_true rfl)
  rw [lg_entry_eq]
  generalize (lg_sl ([.ref (ad 0 0 0), .int (nI a), .int (nI b)]) ++ List.replicate (5 - (lg_sl ([.ref (ad 0 0 0), .int (nI a), .int (nI b)])).length) Slot.unset).toArray = ls at hl ⊢
  have hl : lv_has ls 5 [(0, .ref (ad 0 0 0)), (1, .int (nI a)), (2, .int (nI b))] := hl
  have w0 := hts (.fieldLink RX7 32 "Tutorlight" "skillCount" "I") (List.mem_of_getElem? (i := 1) rfl)
  have nX7 : ∀ w ∈ wsX70, w ∈ wsX7_comesToNeed := fun _ h => List.mem_cons_of_mem _ (List.mem_append_left _ (List.mem_append_right _ h))
  obtain ⟨hR, hO, ha9, hb8⟩ := hp
  have hmk : ∀ k, k < aN S → (aS S k).2.2.2 < 1024 := fun k hk => pow_le10 (hO.2.1 k hk).2.2.2 hO.1.1
  obtain ⟨⟨hn, hl4, hd2, hT⟩, hsk, hma, hdc, hle, hxb⟩ := id hO
  have y0_90 := hR.1 _ _ _ _ (t0)
  refine lv_iconst (v := 1) hx hb dX7_comesToNeed_0 (by decide) ?_
  refine lv_iload_n hx hb dX7_comesToNeed_1 rfl (lv_at hl 1 rfl) ?_
  refine lv_ishl hx hb dX7_comesToNeed_2 ?_
  rw [show 1 <<< ((nI a) &&& 31) = nI (2 ^ a) from shl_1 _ (by omega)]
  refine lv_istore_n (lv' := [(3, .int (nI (2 ^ a))), (0, .ref (ad 0 0 0)), (1, .int (nI a)), (2, .int (nI b))]) hx hb dX7_comesToNeed_3 rfl hl (by decide) rfl (fun ls hl => ?_)
  refine lv_iconst (v := 0) hx hb dX7_comesToNeed_4 (by decide) ?_
  refine lv_istore (lv' := [(4, .int 0), (3, .int (nI (2 ^ a))), (0, .ref (ad 0 0 0)), (1, .int (nI a)), (2, .int (nI b))]) hx hb dX7_comesToNeed_5 hl (by decide) rfl (fun ls hl => ?_)
  have K7 : ∀ (n9 : Nat) (i r9 : Nat), (aN S - i) < n9 → (i ≤ aN S) → (r9 = ctn S a i) → (r9 < 1024) → ∀ (H : Heap) (locs : List Loc), mq_W G.1 A f H → va_S A s.heap H locs → ∀ (ls : Array Slot), lv_has ls 5 [(0, .ref (ad 0 0 0)), (2, .int (nI b)), (3, .int (nI r9)), (4, .int (nI i))] → W p l e (headSpec wsX7_comesToNeed ({ frames := 1, cells := 0, slots := 0, locals := 23 } : Room)).room s m ([.ref (ad 0 0 0), .int (nI a), .int (nI b)] : List Value).toArray below meth c H locs 0 0 (MQ below (mq_Qi G A (fun r g => f = g ∧ r = zb ((ctn S a (aN S)).testBit b))) ([.ref (ad 0 0 0), .int (nI a), .int (nI b)] : List Value).toArray s 0 0 A) (F0 m 7 ls []) := by
    intro n9
    induction n9 with
    | zero => intro i r9 hn9; exact absurd hn9 (Nat.not_lt_zero _)
    | succ n9 ih7 =>
      intro i r9 hn9 hi hq hb9 H locs hM hS ls hl
      refine lv_iload hx hb dX7_comesToNeed_7 (lv_at hl 3 rfl) ?_
      refine lv_aload_n hx hb dX7_comesToNeed_9 rfl (lv_at hl 0 rfl) ?_
      refine mq_get (ci := 12) (v := .int (nI (aN S))) (C := RX7) (T := TX7) (N := 6) hx hb hts nX7 hown hK hM y0_90 rfl 3 (by decide) w0 (fun _ h9 => h9) rfl dX7_comesToNeed_10 ?_
      refine lv_icmp_ge (tgt := 30) hx hb dX7_comesToNeed_13 (by decide) (fun c_13 => ?_) (fun c_13 => ?_)
      · replace c_13 : nI (aN S) ≤ nI i := c_13
        rw [nI_leI (by omega) (by omega)] at c_13
        refine lv_iload_n hx hb dX7_comesToNeed_30 rfl (lv_at hl 2 rfl) ?_
        refine lv_iload_n hx hb dX7_comesToNeed_31 rfl (lv_at hl 1 rfl) ?_
        refine lv_ishr hx hb dX7_comesToNeed_32 ?_
        refine lv_iconst (v := 1) hx hb dX7_comesToNeed_33 (by decide) ?_
        refine lv_iand hx hb dX7_comesToNeed_34 ?_
        rw [show ((nI r9) >>> ((nI b) &&& 31)) &&& 1 = zb (r9.testBit b) from nI_bit (by omega) (by omega)]
        refine lv_if_eq (tgt := 42) hx hb dX7_comesToNeed_35 (by decide) (fun c_35 => ?_) (fun c_35 => ?_)
        · replace c_35 : zb (r9.testBit b) = 0 := c_35
          rw [zb_0] at c_35
          refine lv_iconst (v := 0) hx hb dX7_comesToNeed_42 (by decide) ?_
          exact mq_zret (v := 0) hx hb hr (rfl) hlocks hM hS (⟨rfl, by rw [show aN S = i by omega, ← hq, c_35]; rfl⟩) dX7_comesToNeed_43
        · replace c_35 : ¬ zb (r9.testBit b) = 0 := c_35
          rw [zb_n0] at c_35
          refine lv_iconst (v := 1) hx hb dX7_comesToNeed_38 (by decide) ?_
          refine lv_goto (tgt := 43) hx hb dX7_comesToNeed_39 (by decide) ?_
          exact mq_zret (v := 1) hx hb hr (rfl) hlocks hM hS (⟨rfl, by rw [show aN S = i by omega, ← hq, c_35]; rfl⟩) dX7_comesToNeed_43
      · replace c_13 : ¬ nI (aN S) ≤ nI i := c_13
        rw [nI_leI (by omega) (by omega)] at c_13
        refine lv_iload_n hx hb dX7_comesToNeed_16 rfl (lv_at hl 2 rfl) ?_
        refine lv_aload_n hx hb dX7_comesToNeed_17 rfl (lv_at hl 0 rfl) ?_
        refine lv_iload_n hx hb dX7_comesToNeed_18 rfl (lv_at hl 2 rfl) ?_
        refine mq_calli (va_runV (As := [.int (nI r9)]) (rest := [.int (nI r9)]) ⟨hx, hb, hml, hown, hts⟩ (c_X7_neededByAny l G A f ad S X S2 Y O T r9) (cwV 1 hts gX7_comesToNeed_X7_neededByAny rfl rfl rfl (by decide +kernel) ⟨Nat.le_of_ble_eq_true rfl, Nat.le_of_ble_eq_true rfl⟩) (mq_preV hK hZ hS hA hM (q := (RX7, TX7, 6)) y0_90 rfl (⟨hR, hO, hb9⟩) _) rfl rfl hl.1 rfl (lv_room (Nat.le_of_ble_eq_true rfl)) dX7_comesToNeed_19 ⟨Nat.le_of_ble_eq_true rfl, Nat.le_of_ble_eq_true rfl⟩) hS (fun r19 g19 H locs p19 hM hS => ?_)
        refine W.widen (k := 0) (n := 0) (Nat.le_of_ble_eq_true rfl) (Nat.le_of_ble_eq_true rfl) ?_
        obtain ⟨rfl, rfl⟩ := p19
        refine lv_ior hx hb dX7_comesToNeed_22 ?_
        rw [show (nI r9) ||| (nI (nbL S r9 (aN S))) = nI (r9 ||| nbL S r9 (aN S)) from or_nI _ _]
        refine lv_istore_n (lv' := [(3, .int (nI (r9 ||| nbL S r9 (aN S)))), (0, .ref (ad 0 0 0)), (2, .int (nI b)), (4, .int (nI i))]) hx hb dX7_comesToNeed_23 rfl hl (by decide) rfl (fun ls hl => ?_)
        refine lv_iinc (v := nI (i + 1)) (lv' := [(4, .int (nI (i + 1))), (3, .int (nI (r9 ||| nbL S r9 (aN S)))), (0, .ref (ad 0 0 0)), (2, .int (nI b))]) hx hb dX7_comesToNeed_24 hl (k := 3) rfl (nI_add _ _) (by decide) rfl (fun ls hl => ?_)
        refine lv_goto (tgt := 7) hx hb dX7_comesToNeed_27 (by decide) ?_
        exact ih7 (i + 1) (r9 ||| nbL S r9 (aN S)) (by omega) (by omega) (by rw [hq]; rfl) (by rw [hq]; exact ctn_lt hmk (by omega) (i + 1)) _ _ hM hS _ (lv_sub hl [2, 3, 1, 0] rfl)
  exact K7 _ 0 (2 ^ a) (Nat.lt_succ_self _) (Nat.zero_le _) (rfl) (ctn_lt hmk (by omega) 0) _ _ hM hS _ (lv_sub hl [2, 4, 1, 0] rfl)

set_option maxHeartbeats 4000000 in
set_option maxRecDepth 100000 in
theorem c_X7_exerciseOf (l : Launch) (hfl : l.stackTraces = false) (G : mq_G) (A : Nat → Prop) (f : mq_F) (ad : AD) (S : AT) (X : CX) (S2 : AT) (Y : MX) (O : OX) (T : Nat) (j : Nat) : vx_Met l yX7_exerciseOf wsX7_exerciseOf ({ frames := 7, cells := 1, slots := 6, locals := 120 } : Room) (mq_Pc G A f (WR G f ad S X S2 Y O ∧ cOK S X T ∧ j < aL S) [.ref (ad 5 j 0)]) (mq_Qq G A (fun r g => f = g ∧ ∃ e, lEx (aE S j) = some e ∧ r = some (ad 10 j 0))) (mq_X G A (fun E g => E = "java/lang/IllegalStateException" ∧ f = g ∧ lEx (aE S j) = none)) 1 6 A := by
  refine vx_ofW (cc := cX7_exerciseOf) (maxL := 1) (ret := (some (.object "Tutorlight$Exercise"))) (by decide) rfl ?_
  intro p e s m args below meth c s₁ B hml ht9 hv
  obtain ⟨rfl, ⟨hK, hZ, hM, hA⟩, hp⟩ := hv
  have hx := B.exec
  have hb := B.bytes
  have hr := B.returns
  have hts := atoms_spec (ws := wsX7_exerciseOf) B.pre
  have hown : s.vm.findClass RX7 = some m.cls := findClass_of_methodNamed B.named
  have hlocks := B.notSynchronized
  have hS : va_S A s.heap s.heap [] := va_S.rf
  have hl := lv_entry ([.ref (ad 5 j 0)]) (n := 1) (Nat.le_of_ble_eq_true rfl)
  rw [lg_entry_eq]
  generalize (lg_sl ([.ref (ad 5 j 0)]) ++ List.replicate (1 - (lg_sl ([.ref (ad 5 j 0)])).length) Slot.unset).toArray = ls at hl ⊢
  have hl : lv_has ls 1 [(0, .ref (ad 5 j 0))] := hl
  have w0 := hts (.fieldLink RX7 168 "Tutorlight$Learner" "exercise" "LTutorlight$Exercise;") (List.mem_of_getElem? (i := 3) rfl)
  have w1 := hts (.classLink RX7 36 "java/lang/IllegalStateException") (List.mem_of_getElem? (i := 1) rfl)
  have w2 := hts (.initialized "java/lang/IllegalStateException") (List.mem_of_getElem? (i := 2) rfl)
  have nX3 : ∀ w ∈ wsX30, w ∈ wsX7_exerciseOf := fun _ h => List.mem_cons_of_mem _ (List.mem_append_left _ (List.mem_append_right _ h))
  obtain ⟨hR, hO, hj⟩ := hp
  obtain ⟨⟨hn, hl4, hd2, hT⟩, hsk, hma, hdc, hle, hxb⟩ := id hO
  have y5_91 := hR.1 _ _ _ _ (t5 (j := j) hj)
  refine lv_aload_n hx hb dX7_exerciseOf_0 rfl (lv_at hl 0 rfl) ?_
  refine mq_get (ci := 8) (v := va_rf (oMap (lEx (aE S j)) (ad 10 j 0))) (C := RX3) (T := TX3) (N := 5) hx hb hts nX3 hown hK hM y5_91 rfl 1 (by decide) w0 (fun _ h9 => h9) rfl dX7_exerciseOf_1 ?_
  refine mq_ifnonnullq (tgt := 18) hx hb dX7_exerciseOf_4 (by decide) (fun c_4 => ?_) (fun a9 c_4 => ?_)
  · replace c_4 := oMap_none c_4
    obtain ⟨sa, hsa⟩ := mq_str hZ (own := RX7) (k := 261) (tx := "no exercise") (by decide +kernel)
    refine vx_throwSW (A := A) (own := RX7) (cls := "java/lang/IllegalStateException") (text := "no exercise") (names := ["java/lang/RuntimeException", "java/lang/Exception"]) (ik := 36) (is := 261) (ic := 40) hx hb hfl hown (by decide +kernel) (by decide +kernel) w1 w2 hsa (mq_hat hZ (fun w h => hts w (List.mem_cons_of_mem _ (List.mem_append_right _ h))) (by decide +kernel)) (by decide +kernel) hZ.1.1 hZ.1.2 hS (by rw [hml]; exact hl.1) dX7_exerciseOf_7 dX7_exerciseOf_10 dX7_exerciseOf_11 dX7_exerciseOf_14 dX7_exerciseOf_17 (fun x hx => (ht9 x hx).elim) (Nat.le_of_ble_eq_true rfl) (Nat.le_of_ble_eq_true rfl) (Nat.le_of_ble_eq_true rfl) (Nat.le_of_ble_eq_true rfl) hlocks (fun t9 hv9 hz9 hq9 => mq_thrown hM hS hz9 hq9 (⟨rfl, rfl, c_4⟩)) hS.2.2 (Nat.le_of_ble_eq_true rfl) (Nat.le_of_ble_eq_true rfl)
  · obtain ⟨e9, c_4⟩ := oMap_some c_4
    refine lv_aload_n hx hb dX7_exerciseOf_18 rfl (lv_at hl 0 rfl) ?_
    refine mq_get (ci := 8) (v := va_rf (oMap (lEx (aE S j)) (ad 10 j 0))) (C := RX3) (T := TX3) (N := 5) hx hb hts nX3 hown hK hM y5_91 rfl 1 (by decide) w0 (fun _ h9 => h9) rfl dX7_exerciseOf_19 ?_
    refine vx_ret ?_
    refine W.widen (k := 1) (n := 6) (Nat.le_of_ble_eq_true rfl) (Nat.le_of_ble_eq_true rfl) ?_
    exact mq_aret (r := oMap (lEx (aE S j)) (ad 10 j 0)) rfl hx hb hr (Or.inl ⟨_, rfl⟩) hlocks hM hS (⟨rfl, e9, c_4, by rw [c_4]; rfl⟩) dX7_exerciseOf_22

set_option maxHeartbeats 4000000 in
set_option maxRecDepth 100000 in
theorem c_X7_part (l : Launch) (hfl : l.stackTraces = false) (G : mq_G) (A : Nat → Prop) (f : mq_F) (ad : AD) (S : AT) (X : CX) (S2 : AT) (Y : MX) (O : OX) (T : Nat) (ua ub : Int32) : vx_Met l yX7_part wsX7_part ({ frames := 8, cells := 3, slots := 18, locals := 141 } : Room) (mq_Pc G A f (WR G f ad S X S2 Y O ∧ cOK S X T) [.ref (ad 0 0 0), .int ua, .int ub]) (mq_Qi G A (fun r g => f = g ∧ spPart S ua ub = (0, r))) (mq_X G A (fun E g => f = g ∧ ((spPart S ua ub).1 = 1 ∧ E = "java/lang/IndexOutOfBoundsException" ∨ (spPart S ua ub).1 = 2 ∧ E = "java/lang/IllegalArgumentException" ∨ (spPart S ua ub).1 = 3 ∧ E = "java/lang/IllegalStateException"))) 3 18 A := by
  refine vx_ofW (cc := cX7_part) (maxL := 4) (ret := (some .int)) (by decide) rfl ?_
  intro p e s m args below meth c s₁ B hml ht9 hv
  obtain ⟨rfl, ⟨hK, hZ, hM, hA⟩, hp⟩ := hv
  have hx := B.exec
  have hb := B.bytes
  have hr := B.returns
  have hts := atoms_spec (ws := wsX7_part) B.pre
  have hown : s.vm.findClass RX7 = some m.cls := findClass_of_methodNamed B.named
  have hlocks := B.notSynchronized
  have hS : va_S A s.heap s.heap [] := va_S.rf
  have hl := lv_entry ([.ref (ad 0 0 0), .int ua, .int ub]) (n := 4) (Nat.le_of_ble_eq_true rfl)
  rw [lg_entry_eq]
  generalize (lg_sl ([.ref (ad 0 0 0), .int ua, .int ub]) ++ List.replicate (4 - (lg_sl ([.ref (ad 0 0 0), .int ua, .int ub])).length) Slot.unset).toArray = ls at hl ⊢
  have hl : lv_has ls 4 [(0, .ref (ad 0 0 0)), (1, .int ua), (2, .int ub)] := hl
  have w0 := hts (.classLink RX7 54 "java/lang/IllegalArgumentException") (List.mem_of_getElem? (i := 1) rfl)
  have w1 := hts (.initialized "java/lang/IllegalArgumentException") (List.mem_of_getElem? (i := 2) rfl)
  have w2 := hts (.fieldLink RX7 178 "Tutorlight$Exercise" "equation" "LTutorlight$Equation;") (List.mem_of_getElem? (i := 3) rfl)
  have nX1 : ∀ w ∈ wsX10, w ∈ wsX7_part := fun _ h => List.mem_cons_of_mem _ (List.mem_append_left _ (List.mem_append_left _ (List.mem_append_left _ (List.mem_append_left _ (List.mem_append_left _ (List.mem_append_left _ (List.mem_append_right _ h)))))))
  obtain ⟨hR, hO⟩ := hp
  obtain ⟨⟨hn, hl4, hd2, hT⟩, hsk, hma, hdc, hle, hxb⟩ := id hO
  have y0_94 := hR.1 _ _ _ _ (t0)
  refine lv_aload_n hx hb dX7_part_0 rfl (lv_at hl 0 rfl) ?_
  refine lv_iload_n hx hb dX7_part_1 rfl (lv_at hl 1 rfl) ?_
  refine mq_xcallq (vx_runV (As := [.int ua]) (rest := []) ⟨hx, hb, hml, hown, hts⟩ (c_X7_learnerAt l hfl G A f ad S X S2 Y O T ua) (cwV 1 hts gX7_part_X7_learnerAt rfl rfl rfl (by decide +kernel) ⟨Nat.le_of_ble_eq_true rfl, Nat.le_of_ble_eq_true rfl⟩) (mq_preV hK hZ hS hA hM (q := (RX7, TX7, 6)) y0_94 rfl (⟨hR, hO⟩) _) rfl rfl hl.1 rfl (lv_room (Nat.le_of_ble_eq_true rfl)) dX7_part_2 ⟨Nat.le_of_ble_eq_true rfl, Nat.le_of_ble_eq_true rfl⟩) hS (fun E ce q9 g2 H locs p2 hM hS hce hcv hcl => ?_) (fun r2 g2 H locs p2 hM hS => ?_)
  · obtain ⟨rfl, rfl, q9⟩ := p2
    exact mq_out (List.eq_nil_iff_forall_not_mem.mpr fun x hx => ht9 x hx) hlocks hce hcv hcl hM hS (⟨rfl, Or.inl (⟨congrArg Prod.fst (spL_n q9), rfl⟩)⟩) (Nat.le_of_ble_eq_true rfl) (Nat.le_of_ble_eq_true rfl)
  refine W.widen (k := 1) (n := 6) (Nat.le_of_ble_eq_true rfl) (Nat.le_of_ble_eq_true rfl) ?_
  obtain ⟨rfl, j, hj, rfl, rfl⟩ := p2
  refine lv_astore_n (lv' := [(3, .ref (ad 5 j 0)), (0, .ref (ad 0 0 0)), (1, .int (nI j)), (2, .int ub)]) hx hb dX7_part_5 rfl hl (by decide) rfl (fun ls hl => ?_)
  refine lv_iload_n hx hb dX7_part_6 rfl (lv_at hl 3 rfl) ?_
  refine lv_bipush (v := 97) hx hb dX7_part_7 (by decide) ?_
  refine lv_icmp_lt (tgt := 18) hx hb dX7_part_9 (by decide) (fun c_9 => ?_) (fun c_9 => ?_)
  · obtain ⟨sa, hsa⟩ := mq_str hZ (own := RX7) (k := 172) (tx := "no such part") (by decide +kernel)
    refine vx_throwS (A := A) (own := RX7) (cls := "java/lang/IllegalArgumentException") (text := "no such part") (names := ["java/lang/RuntimeException", "java/lang/Exception"]) (ik := 54) (is := 172) (ic := 58) hx hb hfl hown (by decide +kernel) (by decide +kernel) w0 w1 hsa (mq_hat hZ (fun w h => hts w (List.mem_cons_of_mem _ (List.mem_append_left _ (List.mem_append_left _ (List.mem_append_right _ h))))) (by decide +kernel)) (by decide +kernel) hZ.1.1 hZ.1.2 hS (by rw [hml]; exact hl.1) dX7_part_18 dX7_part_21 dX7_part_22 dX7_part_24 dX7_part_27 (fun x hx => (ht9 x hx).elim) (Nat.le_of_ble_eq_true rfl) (Nat.le_of_ble_eq_true rfl) (Nat.le_of_ble_eq_true rfl) (Nat.le_of_ble_eq_true rfl) hlocks (fun t9 hv9 hz9 hq9 => mq_thrown hM hS hz9 hq9 (⟨rfl, Or.inr (Or.inl (⟨congrArg Prod.fst (show spPart S (nI j) ub = ((2, 0) : Nat × Int32) from (spL_y hj hl4).trans (if_neg (fun q => absurd c_9 (Int32.not_lt.mpr q.1)))), rfl⟩))⟩)) hS.2.2 (Nat.le_of_ble_eq_true rfl) (Nat.le_of_ble_eq_true rfl)
  · refine lv_iload_n hx hb dX7_part_12 rfl (lv_at hl 3 rfl) ?_
    refine lv_bipush (v := 100) hx hb dX7_part_13 (by decide) ?_
    refine lv_icmp_le (tgt := 28) hx hb dX7_part_15 (by decide) (fun c_15 => ?_) (fun c_15 => ?_)
    · refine lv_aload_n hx hb dX7_part_28 rfl (lv_at hl 0 rfl) ?_
      refine mq_xcallq (vx_runS (As := [.ref (ad 5 j 0)]) (rest := []) ⟨hx, hb, hml, hown, hts⟩ (c_X7_exerciseOf l hfl G A f ad S X S2 Y O T j) (va_cwS 1 hts gX7_part_X7_exerciseOf rfl rfl rfl (by decide +kernel) ⟨Nat.le_of_ble_eq_true rfl, Nat.le_of_ble_eq_true rfl⟩) (mq_preS hK hZ hS hA hM (⟨hR, hO, hj⟩) _) rfl rfl hl.1 rfl (lv_room (Nat.le_of_ble_eq_true rfl)) dX7_part_29 ⟨Nat.le_of_ble_eq_true rfl, Nat.le_of_ble_eq_true rfl⟩) hS (fun E ce q9 g29 H locs p29 hM hS hce hcv hcl => ?_) (fun r29 g29 H locs p29 hM hS => ?_)
      · obtain ⟨rfl, rfl, q9⟩ := p29
        exact mq_out (List.eq_nil_iff_forall_not_mem.mpr fun x hx => ht9 x hx) hlocks hce hcv hcl hM hS (⟨rfl, Or.inr (Or.inr (⟨congrArg Prod.fst (show spPart S (nI j) ub = ((3, 0) : Nat × Int32) from (spL_y hj hl4).trans ((if_pos ⟨Int32.not_lt.mp c_9, c_15⟩).trans (by rw [q9]))), rfl⟩))⟩) (Nat.le_of_ble_eq_true rfl) (Nat.le_of_ble_eq_true rfl)
      refine W.widen (k := 2) (n := 12) (Nat.le_of_ble_eq_true rfl) (Nat.le_of_ble_eq_true rfl) ?_
      obtain ⟨rfl, e9, he9, rfl⟩ := p29
      have y10_92 := hR.1 _ _ _ _ (t10 (j := j) hj he9)
      have y11_93 := hR.1 _ _ _ _ (t11 (j := j) hj he9)
      refine mq_get (ci := 6) (v := .ref (ad 11 j 0)) (C := RX1) (T := TX1) (N := 5) hx hb hts nX1 hown hK hM y10_92 rfl 2 (by decide) w2 (fun _ h9 => h9) rfl dX7_part_32 ?_
      refine lv_iload_n hx hb dX7_part_35 rfl (lv_at hl 3 rfl) ?_
      refine mq_calli (va_runV (As := [.int ub]) (rest := []) ⟨hx, hb, hml, hown, hts⟩ (c_X0_numberNamed l G A f (ad 11 j 0) e9.2.2.1.1 e9.2.2.1.2.1 e9.2.2.1.2.2.1 e9.2.2.1.2.2.2 ub) (cwV 1 hts gX7_part_X0_numberNamed rfl rfl rfl (by decide +kernel) ⟨Nat.le_of_ble_eq_true rfl, Nat.le_of_ble_eq_true rfl⟩) (mq_preV hK hZ hS hA hM (q := (RX0, TX0, 4)) y11_93 rfl (⟨y11_93, char4 c_9 c_15⟩) _) rfl rfl hl.1 rfl (lv_room (Nat.le_of_ble_eq_true rfl)) dX7_part_36 ⟨Nat.le_of_ble_eq_true rfl, Nat.le_of_ble_eq_true rfl⟩) hS (fun r36 g36 H locs p36 hM hS => ?_)
      refine W.widen (k := 2) (n := 12) (Nat.le_of_ble_eq_true rfl) (Nat.le_of_ble_eq_true rfl) ?_
      obtain ⟨rfl, rfl⟩ := p36
      refine vx_ret ?_
      refine W.widen (k := 3) (n := 18) (Nat.le_of_ble_eq_true rfl) (Nat.le_of_ble_eq_true rfl) ?_
      exact mq_iret (v := eqP e9.2.2.1 ub) hx hb hr hlocks hM hS (⟨rfl, (spL_y hj hl4).trans ((if_pos ⟨Int32.not_lt.mp c_9, c_15⟩).trans (by rw [he9]))⟩) dX7_part_39
    · obtain ⟨sa, hsa⟩ := mq_str hZ (own := RX7) (k := 172) (tx := "no such part") (by decide +kernel)
      refine vx_throwS (A := A) (own := RX7) (cls := "java/lang/IllegalArgumentException") (text := "no such part") (names := ["java/lang/RuntimeException", "java/lang/Exception"]) (ik := 54) (is := 172) (ic := 58) hx hb hfl hown (by decide +kernel) (by decide +kernel) w0 w1 hsa (mq_hat hZ (fun w h => hts w (List.mem_cons_of_mem _ (List.mem_append_left _ (List.mem_append_left _ (List.mem_append_right _ h))))) (by decide +kernel)) (by decide +kernel) hZ.1.1 hZ.1.2 hS (by rw [hml]; exact hl.1) dX7_part_18 dX7_part_21 dX7_part_22 dX7_part_24 dX7_part_27 (fun x hx => (ht9 x hx).elim) (Nat.le_of_ble_eq_true rfl) (Nat.le_of_ble_eq_true rfl) (Nat.le_of_ble_eq_true rfl) (Nat.le_of_ble_eq_true rfl) hlocks (fun t9 hv9 hz9 hq9 => mq_thrown hM hS hz9 hq9 (⟨rfl, Or.inr (Or.inl (⟨congrArg Prod.fst (show spPart S (nI j) ub = ((2, 0) : Nat × Int32) from (spL_y hj hl4).trans (if_neg (fun q => c_15 q.2))), rfl⟩))⟩)) hS.2.2 (Nat.le_of_ble_eq_true rfl) (Nat.le_of_ble_eq_true rfl)

set_option maxHeartbeats 4000000 in
set_option maxRecDepth 100000 in
theorem c_X7_faults (l : Launch) (hfl : l.stackTraces = false) (G : mq_G) (A : Nat → Prop) (f : mq_F) (ad : AD) (S : AT) (X : CX) (S2 : AT) (Y : MX) (O : OX) (T : Nat) (ua : Int32) : vx_Met l yX7_faults wsX7_faults ({ frames := 8, cells := 2, slots := 12, locals := 141 } : Room) (mq_Pc G A f (WR G f ad S X S2 Y O ∧ cOK S X T) [.ref (ad 0 0 0), .int ua]) (mq_Qi G A (fun r g => f = g ∧ spFaults S ua = (0, r))) (mq_X G A (fun E g => f = g ∧ ((spFaults S ua).1 = 1 ∧ E = "java/lang/IndexOutOfBoundsException" ∨ (spFaults S ua).1 = 2 ∧ E = "java/lang/IllegalStateException"))) 2 12 A := by
  refine vx_ofW (cc := cX7_faults) (maxL := 3) (ret := (some .int)) (by decide) rfl ?_
  intro p e s m args below meth c s₁ B hml ht9 hv
  obtain ⟨rfl, ⟨hK, hZ, hM, hA⟩, hp⟩ := hv
  have hx := B.exec
  have hb := B.bytes
  have hr := B.returns
  have hts := atoms_spec (ws := wsX7_faults) B.pre
  have hown : s.vm.findClass RX7 = some m.cls := findClass_of_methodNamed B.named
  have hlocks := B.notSynchronized
  have hS : va_S A s.heap s.heap [] := va_S.rf
  have hl := lv_entry ([.ref (ad 0 0 0), .int ua]) (n := 3) (Nat.le_of_ble_eq_true rfl)
  rw [lg_entry_eq]
  generalize (lg_sl ([.ref (ad 0 0 0), .int ua]) ++ List.replicate (3 - (lg_sl ([.ref (ad 0 0 0), .int ua])).length) Slot.unset).toArray = ls at hl ⊢
  have hl : lv_has ls 3 [(0, .ref (ad 0 0 0)), (1, .int ua)] := hl
  have w0 := hts (.fieldLink RX7 198 "Tutorlight$Exercise" "wrongSteps" "I") (List.mem_of_getElem? (i := 1) rfl)
  have w1 := hts (.fieldLink RX7 227 "Tutorlight$Exercise" "hints" "I") (List.mem_of_getElem? (i := 2) rfl)
  have nX1 : ∀ w ∈ wsX10, w ∈ wsX7_faults := fun _ h => List.mem_cons_of_mem _ (List.mem_append_left _ (List.mem_append_left _ (List.mem_append_left _ (List.mem_append_left _ (List.mem_append_right _ h)))))
  obtain ⟨hR, hO⟩ := hp
  obtain ⟨⟨hn, hl4, hd2, hT⟩, hsk, hma, hdc, hle, hxb⟩ := id hO
  have y0_96 := hR.1 _ _ _ _ (t0)
  refine lv_aload_n hx hb dX7_faults_0 rfl (lv_at hl 0 rfl) ?_
  refine lv_iload_n hx hb dX7_faults_1 rfl (lv_at hl 1 rfl) ?_
  refine mq_xcallq (vx_runV (As := [.int ua]) (rest := []) ⟨hx, hb, hml, hown, hts⟩ (c_X7_learnerAt l hfl G A f ad S X S2 Y O T ua) (cwV 1 hts gX7_faults_X7_learnerAt rfl rfl rfl (by decide +kernel) ⟨Nat.le_of_ble_eq_true rfl, Nat.le_of_ble_eq_true rfl⟩) (mq_preV hK hZ hS hA hM (q := (RX7, TX7, 6)) y0_96 rfl (⟨hR, hO⟩) _) rfl rfl hl.1 rfl (lv_room (Nat.le_of_ble_eq_true rfl)) dX7_faults_2 ⟨Nat.le_of_ble_eq_true rfl, Nat.le_of_ble_eq_true rfl⟩) hS (fun E ce q9 g2 H locs p2 hM hS hce hcv hcl => ?_) (fun r2 g2 H locs p2 hM hS => ?_)
  · obtain ⟨rfl, rfl, q9⟩ := p2
    exact mq_out (List.eq_nil_iff_forall_not_mem.mpr fun x hx => ht9 x hx) hlocks hce hcv hcl hM hS (⟨rfl, Or.inl (⟨congrArg Prod.fst (spL_n q9), rfl⟩)⟩) (Nat.le_of_ble_eq_true rfl) (Nat.le_of_ble_eq_true rfl)
  refine W.widen (k := 1) (n := 6) (Nat.le_of_ble_eq_true rfl) (Nat.le_of_ble_eq_true rfl) ?_
  obtain ⟨rfl, j, hj, rfl, rfl⟩ := p2
  refine mq_xcallq (vx_runS (As := [.ref (ad 5 j 0)]) (rest := []) ⟨hx, hb, hml, hown, hts⟩ (c_X7_exerciseOf l hfl G A f ad S X S2 Y O T j) (va_cwS 1 hts gX7_faults_X7_exerciseOf rfl rfl rfl (by decide +kernel) ⟨Nat.le_of_ble_eq_true rfl, Nat.le_of_ble_eq_true rfl⟩) (mq_preS hK hZ hS hA hM (⟨hR, hO, hj⟩) _) rfl rfl hl.1 rfl (lv_room (Nat.le_of_ble_eq_true rfl)) dX7_faults_5 ⟨Nat.le_of_ble_eq_true rfl, Nat.le_of_ble_eq_true rfl⟩) hS (fun E ce q9 g5 H locs p5 hM hS hce hcv hcl => ?_) (fun r5 g5 H locs p5 hM hS => ?_)
  · obtain ⟨rfl, rfl, q9⟩ := p5
    exact mq_out (List.eq_nil_iff_forall_not_mem.mpr fun x hx => ht9 x hx) hlocks hce hcv hcl hM hS (⟨rfl, Or.inr (⟨congrArg Prod.fst (show spFaults S (nI j) = ((2, 0) : Nat × Int32) from (spL_y hj hl4).trans (by rw [q9]; rfl)), rfl⟩)⟩) (Nat.le_of_ble_eq_true rfl) (Nat.le_of_ble_eq_true rfl)
  refine W.widen (k := 2) (n := 12) (Nat.le_of_ble_eq_true rfl) (Nat.le_of_ble_eq_true rfl) ?_
  obtain ⟨rfl, e9, he9, rfl⟩ := p5
  obtain ⟨x1, x2, x3, x4, x5⟩ := (hle j hj).1 e9 he9
  refine lv_astore_n (lv' := [(2, .ref (ad 10 j 0)), (0, .ref (ad 0 0 0)), (1, .int (nI j))]) hx hb dX7_faults_8 rfl hl (by decide) rfl (fun ls hl => ?_)
  have y10_95 := hR.1 _ _ _ _ (t10 (j := j) hj he9)
  refine lv_bipush (v := 10) hx hb dX7_faults_9 (by decide) ?_
  refine lv_aload_n hx hb dX7_faults_11 rfl (lv_at hl 0 rfl) ?_
  refine mq_get (ci := 6) (v := .int (nI (e9.2.2.2.1))) (C := RX1) (T := TX1) (N := 5) hx hb hts nX1 hown hK hM y10_95 rfl 3 (by decide) w0 (fun _ h9 => h9) rfl dX7_faults_12 ?_
  refine lv_imul hx hb dX7_faults_15 ?_
  rw [show 10 * (nI (e9.2.2.2.1)) = nI (10 * e9.2.2.2.1) from pk_mul _ _]
  refine lv_aload_n hx hb dX7_faults_16 rfl (lv_at hl 0 rfl) ?_
  refine mq_get (ci := 6) (v := .int (nI (e9.2.2.2.2))) (C := RX1) (T := TX1) (N := 5) hx hb hts nX1 hown hK hM y10_95 rfl 4 (by decide) w1 (fun _ h9 => h9) rfl dX7_faults_17 ?_
  refine lv_iadd hx hb dX7_faults_20 ?_
  rw [show (nI (10 * e9.2.2.2.1)) + (nI (e9.2.2.2.2)) = nI ((10 * e9.2.2.2.1) + e9.2.2.2.2) from nI_add _ _]
  refine vx_ret ?_
  exact mq_iret (v := nI ((10 * e9.2.2.2.1) + e9.2.2.2.2)) hx hb hr hlocks hM hS (⟨rfl, (spL_y hj hl4).trans (by rw [he9]; rfl)⟩) dX7_faults_21

set_option maxHeartbeats 4000000 in
set_option maxRecDepth 100000 in
theorem c_X7_checkThousandths (l : Launch) (hfl : l.stackTraces = false) (G : mq_G) (A : Nat → Prop) (f : mq_F) (v : Int32) : vx_Met l yX7_checkThousandths wsX7_checkThousandths ({ frames := 7, cells := 1, slots := 6, locals := 120 } : Room) (mq_Pc G A f (True) [.int v]) (mq_Qv G A (fun g => f = g ∧ ∃ n, n ≤ 500 ∧ v = nI n)) (mq_X G A (fun E g => E = "java/lang/IllegalArgumentException" ∧ f = g ∧ ¬ ∃ n, n ≤ 500 ∧ v = nI n)) 1 6 A := by
  refine vx_ofW (cc := cX7_checkThousandths) (maxL := 1) (ret := none) (by decide) rfl ?_
  intro p e s m args below meth c s₁ B hml ht9 hv
  obtain ⟨rfl, ⟨hK, hZ, hM, hA⟩, hp⟩ := hv
  have hx := B.exec
  have hb := B.bytes
  have hr := B.returns
  have hts := atoms_spec (ws := wsX7_checkThousandths) B.pre
  have hown : s.vm.findClass RX7 = some m.cls := findClass_of_methodNamed B.named
  have hlocks := B.notSynchronized
  have hS : va_S A s.heap s.heap [] := va_S.rf
  have hl := lv_entry ([.int v]) (n := 1) (Nat.le_of_ble_eq_true rfl)
  rw [lg_entry_eq]
  generalize (lg_sl ([.int v]) ++ List.replicate (1 - (lg_sl ([.int v])).length) Slot.unset).toArray = ls at hl ⊢
  have hl : lv_has ls 1 [(0, .int v)] := hl
  have w0 := hts (.classLink RX7 54 "java/lang/IllegalArgumentException") (List.mem_of_getElem? (i := 1) rfl)
  have w1 := hts (.initialized "java/lang/IllegalArgumentException") (List.mem_of_getElem? (i := 2) rfl)
  refine lv_iload_n hx hb dX7_checkThousandths_0 rfl (lv_at hl 0 rfl) ?_
  refine lv_if_lt (tgt := 11) hx hb dX7_checkThousandths_1 (by decide) (fun c_1 => ?_) (fun c_1 => ?_)
  · obtain ⟨sa, hsa⟩ := mq_str hZ (own := RX7) (k := 250) (tx := "thousandths out of range") (by decide +kernel)
    refine vx_throwS (A := A) (own := RX7) (cls := "java/lang/IllegalArgumentException") (text := "thousandths out of range") (names := ["java/lang/RuntimeException", "java/lang/Exception"]) (ik := 54) (is := 250) (ic := 58) hx hb hfl hown (by decide +kernel) (by decide +kernel) w0 w1 hsa (mq_hat hZ (fun w h => hts w (List.mem_cons_of_mem _ (List.mem_append_right _ h))) (by decide +kernel)) (by decide +kernel) hZ.1.1 hZ.1.2 hS (by rw [hml]; exact hl.1) dX7_checkThousandths_11 dX7_checkThousandths_14 dX7_checkThousandths_15 dX7_checkThousandths_17 dX7_checkThousandths_20 (fun x hx => (ht9 x hx).elim) (Nat.le_of_ble_eq_true rfl) (Nat.le_of_ble_eq_true rfl) (Nat.le_of_ble_eq_true rfl) (Nat.le_of_ble_eq_true rfl) hlocks (fun t9 hv9 hz9 hq9 => mq_thrown hM hS hz9 hq9 (⟨rfl, rfl, fun ⟨n, h1, h2⟩ => nI_pos (show n < 2 ^ 31 by omega) (h2 ▸ c_1)⟩)) hS.2.2 (Nat.le_of_ble_eq_true rfl) (Nat.le_of_ble_eq_true rfl)
  · obtain ⟨n, hn31, rfl⟩ := nI_of c_1
    refine lv_iload_n hx hb dX7_checkThousandths_4 rfl (lv_at hl 0 rfl) ?_
    refine lv_sipush (v := 500) hx hb dX7_checkThousandths_5 (by decide) ?_
    refine lv_icmp_le (tgt := 21) hx hb dX7_checkThousandths_8 (by decide) (fun c_8 => ?_) (fun c_8 => ?_)
    · replace c_8 : nI n ≤ nI 500 := c_8
      rw [nI_leI (by omega) (by omega)] at c_8
      refine vx_ret ?_
      refine W.widen (k := 1) (n := 6) (Nat.le_of_ble_eq_true rfl) (Nat.le_of_ble_eq_true rfl) ?_
      exact mq_vret hx hb hr hlocks hM hS (⟨rfl, n, c_8, rfl⟩) dX7_checkThousandths_21
    · replace c_8 : ¬ nI n ≤ nI 500 := c_8
      rw [nI_leI (by omega) (by omega)] at c_8
      obtain ⟨sa, hsa⟩ := mq_str hZ (own := RX7) (k := 250) (tx := "thousandths out of range") (by decide +kernel)
      refine vx_throwS (A := A) (own := RX7) (cls := "java/lang/IllegalArgumentException") (text := "thousandths out of range") (names := ["java/lang/RuntimeException", "java/lang/Exception"]) (ik := 54) (is := 250) (ic := 58) hx hb hfl hown (by decide +kernel) (by decide +kernel) w0 w1 hsa (mq_hat hZ (fun w h => hts w (List.mem_cons_of_mem _ (List.mem_append_right _ h))) (by decide +kernel)) (by decide +kernel) hZ.1.1 hZ.1.2 hS (by rw [hml]; exact hl.1) dX7_checkThousandths_11 dX7_checkThousandths_14 dX7_checkThousandths_15 dX7_checkThousandths_17 dX7_checkThousandths_20 (fun x hx => (ht9 x hx).elim) (Nat.le_of_ble_eq_true rfl) (Nat.le_of_ble_eq_true rfl) (Nat.le_of_ble_eq_true rfl) (Nat.le_of_ble_eq_true rfl) hlocks (fun t9 hv9 hz9 hq9 => mq_thrown hM hS hz9 hq9 (⟨rfl, rfl, fun ⟨n9, h1, h2⟩ => c_8 (by have := (nI_eq hn31 (by omega)).mp h2; omega)⟩)) hS.2.2 (Nat.le_of_ble_eq_true rfl) (Nat.le_of_ble_eq_true rfl)

set_option maxHeartbeats 4000000 in
set_option maxRecDepth 100000 in
theorem c_X7_checkTold (l : Launch) (hfl : l.stackTraces = false) (G : mq_G) (A : Nat → Prop) (f : mq_F) (v : Int32) : vx_Met l yX7_checkTold wsX7_checkTold ({ frames := 7, cells := 1, slots := 6, locals := 120 } : Room) (mq_Pc G A f (True) [.int v]) (mq_Qv G A (fun g => f = g ∧ -9999 ≤ v.toInt ∧ v.toInt ≤ 9999)) (mq_X G A (fun E g => E = "java/lang/IllegalArgumentException" ∧ f = g ∧ ¬ (-9999 ≤ v.toInt ∧ v.toInt ≤ 9999))) 1 6 A := by
  refine vx_ofW (cc := cX7_checkTold) (maxL := 1) (ret := none) (by decide) rfl ?_
  intro p e s m args below meth c s₁ B hml ht9 hv
  obtain ⟨rfl, ⟨hK, hZ, hM, hA⟩, hp⟩ := hv
  have hx := B.exec
  have hb := B.bytes
  have hr := B.returns
  have hts := atoms_spec (ws := wsX7_checkTold) B.pre
  have hown : s.vm.findClass RX7 = some m.cls := findClass_of_methodNamed B.named
  have hlocks := B.notSynchronized
  have hS : va_S A s.heap s.heap [] := va_S.rf
  have hl := lv_entry ([.int v]) (n := 1) (Nat.le_of_ble_eq_true rfl)
  rw [lg_entry_eq]
  generalize (lg_sl ([.int v]) ++ List.replicate (1 - (lg_sl ([.int v])).length) Slot.unset).toArray = ls at hl ⊢
  have hl : lv_has ls 1 [(0, .int v)] := hl
  have w0 := hts (.classLink RX7 54 "java/lang/IllegalArgumentException") (List.mem_of_getElem? (i := 1) rfl)
  have w1 := hts (.initialized "java/lang/IllegalArgumentException") (List.mem_of_getElem? (i := 2) rfl)
  refine lv_iload_n hx hb dX7_checkTold_0 rfl (lv_at hl 0 rfl) ?_
  refine lv_sipush (v := (-9999)) hx hb dX7_checkTold_1 (by decide) ?_
  refine lv_icmp_lt (tgt := 14) hx hb dX7_checkTold_4 (by decide) (fun c_4 => ?_) (fun c_4 => ?_)
  · obtain ⟨sa, hsa⟩ := mq_str hZ (own := RX7) (k := 155) (tx := "number out of range") (by decide +kernel)
    refine vx_throwS (A := A) (own := RX7) (cls := "java/lang/IllegalArgumentException") (text := "number out of range") (names := ["java/lang/RuntimeException", "java/lang/Exception"]) (ik := 54) (is := 155) (ic := 58) hx hb hfl hown (by decide +kernel) (by decide +kernel) w0 w1 hsa (mq_hat hZ (fun w h => hts w (List.mem_cons_of_mem _ (List.mem_append_right _ h))) (by decide +kernel)) (by decide +kernel) hZ.1.1 hZ.1.2 hS (by rw [hml]; exact hl.1) dX7_checkTold_14 dX7_checkTold_17 dX7_checkTold_18 dX7_checkTold_20 dX7_checkTold_23 (fun x hx => (ht9 x hx).elim) (Nat.le_of_ble_eq_true rfl) (Nat.le_of_ble_eq_true rfl) (Nat.le_of_ble_eq_true rfl) (Nat.le_of_ble_eq_true rfl) hlocks (fun t9 hv9 hz9 hq9 => mq_thrown hM hS hz9 hq9 (⟨rfl, rfl, fun q => by rw [Int32.lt_iff_toInt_lt, show (-9999 : Int32).toInt = -9999 from rfl] at c_4; omega⟩)) hS.2.2 (Nat.le_of_ble_eq_true rfl) (Nat.le_of_ble_eq_true rfl)
  · refine lv_iload_n hx hb dX7_checkTold_7 rfl (lv_at hl 0 rfl) ?_
    refine lv_sipush (v := 9999) hx hb dX7_checkTold_8 (by decide) ?_
    refine lv_icmp_le (tgt := 24) hx hb dX7_checkTold_11 (by decide) (fun c_11 => ?_) (fun c_11 => ?_)
    · refine vx_ret ?_
      refine W.widen (k := 1) (n := 6) (Nat.le_of_ble_eq_true rfl) (Nat.le_of_ble_eq_true rfl) ?_
      exact mq_vret hx hb hr hlocks hM hS (⟨rfl, by rw [Int32.lt_iff_toInt_lt, show (-9999 : Int32).toInt = -9999 from rfl] at c_4; omega, by rw [Int32.le_iff_toInt_le, show (9999 : Int32).toInt = 9999 from rfl] at c_11; omega⟩) dX7_checkTold_24
    · obtain ⟨sa, hsa⟩ := mq_str hZ (own := RX7) (k := 155) (tx := "number out of range") (by decide +kernel)
      refine vx_throwS (A := A) (own := RX7) (cls := "java/lang/IllegalArgumentException") (text := "number out of range") (names := ["java/lang/RuntimeException", "java/lang/Exception"]) (ik := 54) (is := 155) (ic := 58) hx hb hfl hown (by decide +kernel) (by decide +kernel) w0 w1 hsa (mq_hat hZ (fun w h => hts w (List.mem_cons_of_mem _ (List.mem_append_right _ h))) (by decide +kernel)) (by decide +kernel) hZ.1.1 hZ.1.2 hS (by rw [hml]; exact hl.1) dX7_checkTold_14 dX7_checkTold_17 dX7_checkTold_18 dX7_checkTold_20 dX7_checkTold_23 (fun x hx => (ht9 x hx).elim) (Nat.le_of_ble_eq_true rfl) (Nat.le_of_ble_eq_true rfl) (Nat.le_of_ble_eq_true rfl) (Nat.le_of_ble_eq_true rfl) hlocks (fun t9 hv9 hz9 hq9 => mq_thrown hM hS hz9 hq9 (⟨rfl, rfl, fun q => by rw [Int32.le_iff_toInt_le, show (9999 : Int32).toInt = 9999 from rfl] at c_11; omega⟩)) hS.2.2 (Nat.le_of_ble_eq_true rfl) (Nat.le_of_ble_eq_true rfl)
