/-! EXERCISES, LEARNERS, EXPLAINERS: what constructors make -/
theorem mq_fr {f g : mq_F} {a q : Nat} {e : va_E} (hg : g = mq_up f a e) (h : g q = none) : f q = none := (mq_nn hg h).1
/-- pairs of new cells behind a map f, in the map g; of the cells of f only x may differ -/
def lr_I (C1 : Nat → va_E) (C2 : va_E) (f g : mq_F) (x : Nat) (ma wo : Nat → Nat) (i : Nat) : Prop :=
  (∀ k, k < i → g (ma k) = some (C1 (wo k)) ∧ g (wo k) = some C2 ∧ f (ma k) = none ∧ f (wo k) = none) ∧ (∀ a b, a < i → b < i → (ma a = ma b → a = b) ∧ (wo a = wo b → a = b) ∧ ma a ≠ wo b) ∧ (∀ y e, y ≠ x → f y = some e → g y = some e)
theorem lr_0 {C1 : Nat → va_E} {C2 : va_E} {f g : mq_F} {x : Nat} {ma wo : Nat → Nat} (h : ∀ y e, y ≠ x → f y = some e → g y = some e) : lr_I C1 C2 f g x ma wo 0 := ⟨fun k hk => absurd hk (Nat.not_lt_zero k), fun a b ha => absurd ha (Nat.not_lt_zero a), h⟩
theorem lr_step {C1 : Nat → va_E} {C2 ex : va_E} {f h g : mq_F} {x q q' ya yb i : Nat} {ma wo : Nat → Nat} (hI : lr_I C1 C2 f h x ma wo i) (hx : h x = some ex) (hq : h q = none) (hq' : h q' = none) (hne : q ≠ q')
    (hk : ∀ y e, y ≠ ya → y ≠ yb → h y = some e → g y = some e) (hya : f ya = none) (hyb : f yb = none) (hy : ∀ k, k < i → ma k ≠ ya ∧ wo k ≠ ya ∧ ma k ≠ yb ∧ wo k ≠ yb) (h1 : g q = some (C1 q')) (h2 : g q' = some C2) :
    lr_I C1 C2 f g x (fun k => if k = i then q else ma k) (fun k => if k = i then q' else wo k) (i + 1) := by
  obtain ⟨i1, i2, i3⟩ := hI
  have fq : ∀ z, h z = none → f z = none := by
    intro z hz
    cases hfz : f z with
    | none => rfl
    | some e =>
      have : z ≠ x := fun w => by rw [w, hx] at hz; cases hz
      rw [i3 z e this hfz] at hz; cases hz
  refine ⟨fun k hk9 => ?_, fun a b ha hb => ?_, fun y e hyx hfy => ?_⟩
  · by_cases hki : k = i
    · subst hki
      simp only [if_true]
      exact ⟨h1, h2, fq _ hq, fq _ hq'⟩
    · simp only [if_neg hki]
      have hk8 : k < i := by omega
      obtain ⟨a1, a2, a3, a4⟩ := i1 k hk8
      obtain ⟨b1, b2, b3, b4⟩ := hy k hk8
      exact ⟨hk _ _ b1 b3 a1, hk _ _ b2 b4 a2, a3, a4⟩
  · have nm : ∀ k, k < i → ma k ≠ q ∧ ma k ≠ q' ∧ wo k ≠ q ∧ wo k ≠ q' := fun k hk8 => ⟨mq_neN (i1 k hk8).1 hq, mq_neN (i1 k hk8).1 hq', mq_neN (i1 k hk8).2.1 hq, mq_neN (i1 k hk8).2.1 hq'⟩
    by_cases hai : a = i
    · by_cases hbi : b = i
      · refine ⟨fun _ => by omega, fun _ => by omega, ?_⟩
        simp only [hai, hbi, if_true]; exact hne
      · simp only [hai, if_true, if_neg hbi]
        have := nm b (by omega)
        exact ⟨fun w => absurd w.symm this.1, fun w => absurd w.symm this.2.2.2, this.2.2.1.symm⟩
    · by_cases hbi : b = i
      · simp only [hbi, if_true, if_neg hai]
        have := nm a (by omega)
        exact ⟨fun w => absurd w this.1, fun w => absurd w this.2.2.2, this.2.1⟩
      · simp only [if_neg hai, if_neg hbi]; exact i2 a b (by omega) (by omega)
  · have h9 := i3 y e hyx hfy
    exact hk y e (fun w => by rw [w, hya] at hfy; cases hfy) (fun w => by rw [w, hyb] at hfy; cases hfy) h9
theorem lr_keep {C1 : Nat → va_E} {C2 : va_E} {f h g : mq_F} {x y i : Nat} {e : va_E} {ma wo : Nat → Nat} (hI : lr_I C1 C2 f h x ma wo i) (hg : g = mq_up h y e) (hfy : f y = none) (hy : ∀ k, k < i → ma k ≠ y ∧ wo k ≠ y) : lr_I C1 C2 f g x ma wo i :=
  ⟨fun k hk => ⟨mq_n hg (hI.1 k hk).1 (hy k hk).1, mq_n hg (hI.1 k hk).2.1 (hy k hk).2, (hI.1 k hk).2.2⟩, hI.2.1, fun z e9 hz hf => mq_n hg (hI.2.2 z e9 hz hf) (fun w => by rw [w, hfy] at hf; cases hf)⟩
theorem lr_fn {ma : Nat → Nat} {i q : Nat} : va_up (fun k => if k < i then some (ma k) else none) i (some q) = fun k => if k < i + 1 then some ((fun k => if k = i then q else ma k) k) else none := by
  funext k
  by_cases hk : k = i
  · subst hk; simp [va_up]
  · by_cases h : k < i
    · simp [va_up, hk, h, show k < i + 1 by omega]
    · simp [va_up, hk, h, show ¬ k < i + 1 by omega]
def rf_of (n : Nat) (a : Nat → Nat) : Nat → Option Nat := fun k => if k < n then some (a k) else none
theorem rf_S {n q : Nat} {a : Nat → Nat} : va_up (rf_of n a) n (some q) = rf_of (n + 1) (fun k => if k = n then q else a k) := lr_fn
theorem rf_0 {a : Nat → Nat} : (fun _ => none) = rf_of 0 a := by funext k; simp [rf_of]
theorem rf_at {n k : Nat} {a : Nat → Nat} (h : k < n) : rf_of n a k = some (a k) := if_pos h
/-- an exercise's solution, its equation -/
def ex_sol (n : Nat) : Int32 := nI (n / 14 % 10) - 4
def ex_b (n : Nat) : Int32 := nI (n / 140 % 9) - 4
def ex_eq (n : Nat) : eqT := (nI (2 + n % 7), ex_b n, nI (n / 7 % 2), nI (2 + n % 7) * ex_sol n + ex_b n - nI (n / 7 % 2) * ex_sol n)
abbrev cEx (sk : Nat) (sol : Int32) (q : Nat) (wr hi : Nat) : va_E := .inr (6, [.int (nI sk), .int sol, .ref q, .int (nI wr), .int (nI hi)])
abbrev cLe (mA : Nat) (ex ws : Option Nat) (ln old : Nat) : va_E := .inr (8, [.ref mA, va_rf ex, va_rf ws, .ref ln, .int (nI old)])
abbrev cMa0 : Nat → va_E := cMa 200 0 0 200 0 false
def lr_made (G : mq_G) (f g : mq_F) (x mA ln : Nat) (ma wo : Nat → Nat) : Prop := lr_I cMa0 (cWo G (fun _ => 0)) f g x ma wo 10 ∧ f mA = none ∧ f ln = none ∧ g x = some (cLe mA none none ln 0) ∧ g mA = some (cRf (G.2 5) 10 (rf_of 10 ma)) ∧ g ln = some (cIn G 3 (fun k => if k < 3 then -1 else 0))
theorem m1_fn : upd (upd (upd (fun _ => (0 : Int32)) 0 (-1)) 1 (-1)) 2 (-1) = fun k => if k < 3 then -1 else 0 := by
  funext k
  by_cases h0 : k = 0
  · subst h0; rfl
  · by_cases h1 : k = 1
    · subst h1; rfl
    · by_cases h2 : k = 2
      · subst h2; rfl
      · simp [upd, h0, h1, h2, show ¬ k < 3 by omega]
def ep_made (G : mq_G) (f g : mq_F) (x rA bA : Nat) (er eb : Nat → Nat) : Prop := lr_I (fun _ => cEq (0, 0, 0, 0)) (cEq (0, 0, 0, 0)) f g x er eb 3 ∧ f rA = none ∧ f bA = none ∧ rA ≠ bA ∧ g x = some (.inr (7, [.ref rA, .ref bA, .null, .int 0])) ∧ g rA = some (cRf (G.2 3) 3 (rf_of 3 er)) ∧ g bA = some (cRf (G.2 3) 3 (rf_of 3 eb))

set_option maxHeartbeats 4000000 in
set_option maxRecDepth 100000 in
theorem c_X1_init (l : Launch) (G : mq_G) (A : Nat → Prop) (f : mq_F) (x sk N : Nat) : Met l yX1_init wsX1_init ({ frames := 2, cells := 1, slots := 4, locals := 48 } : Room) (mq_Pc G A f (f x = some (.inr (6, [.int 0, .int 0, .null, .int 0, .int 0])) ∧ N < 1260) [.ref x, .int (nI sk), .int (nI N)]) (mq_Qv G A (fun g => ∃ q, f q = none ∧ q ≠ x ∧ g = mq_up (mq_up f q (cEq (ex_eq N))) x (cEx sk (ex_sol N) q 0 0))) 1 4 A := by
  refine Met.ofW (cc := cX1_init) (maxL := 6) (ret := none) (by decide) rfl ?_
  intro p e s m args below meth c s₁ B hml hv
  obtain ⟨rfl, ⟨hK, hZ, hM, hA⟩, hp⟩ := hv
  have hx := B.exec
  have hb := B.bytes
  have hr := B.returns
  have hts := atoms_spec (ws := wsX1_init) B.pre
  have hown : s.vm.findClass RX1 = some m.cls := findClass_of_methodNamed B.named
  have hlocks := B.notSynchronized
  have hin : meth.name = "<init>" := (name_of_methodNamed B.named B.method).1
  have hS : va_S A s.heap s.heap [] := va_S.rf
  have hl := lv_entry ([.ref x, .int (nI sk), .int (nI N)]) (n := 6) (Nat.le_of_ble_eq_true rfl)
  rw [lg_entry_eq]
  generalize (lg_sl ([.ref x, .int (nI sk), .int (nI N)]) ++ List.replicate (6 - (lg_sl ([.ref x, .int (nI sk), .int (nI N)])).length) Slot.unset).toArray = ls at hl ⊢
  have hl : lv_has ls 6 [(0, .ref x), (1, .int (nI sk)), (2, .int (nI N))] := hl
  have w0 := hts (.methodLink RX1 1 objectInit) (List.mem_of_getElem? (i := 1) rfl)
  have w1 := hts (.instanceMethod objectInit) (List.mem_of_getElem? (i := 2) rfl)
  have w2 := hts (.code objectInit ⟨#[0xb1]⟩ 1 none) (List.mem_of_getElem? (i := 3) rfl)
  have w3 := hts (.fieldLink RX1 7 "Tutorlight$Exercise" "skill" "I") (List.mem_of_getElem? (i := 4) rfl)
  have w4 := hts (.fieldLink RX1 13 "Tutorlight$Exercise" "solution" "I") (List.mem_of_getElem? (i := 5) rfl)
  have w5 := hts (.classLink RX1 16 RX0) (List.mem_of_getElem? (i := 6) rfl)
  have w6 := hts (.instantiable RX0 4) (List.mem_of_getElem? (i := 7) rfl)
  have w7 := hts (.initialized RX0) (List.mem_of_getElem? (i := 8) rfl)
  have w8 := hts (.methodLink RX1 18 yX0_init) (List.mem_of_getElem? (i := 10) rfl)
  have w9 := hts (.instanceMethod yX0_init) (List.mem_of_getElem? (i := 11) rfl)
  have w10 := hts (.fieldLink RX1 21 "Tutorlight$Exercise" "equation" "LTutorlight$Equation;") (List.mem_of_getElem? (i := 9) rfl)
  have nX1 : ∀ w ∈ wsX10, w ∈ wsX1_init := fun _ h => List.mem_cons_of_mem _ (List.mem_append_left _ (List.mem_append_right _ h))
  have nX0 : ∀ w ∈ wsX00, w ∈ wsX1_init := fun _ h => List.mem_cons_of_mem _ (List.mem_append_right _ h)
  obtain ⟨h0, hN⟩ := hp
  refine lv_aload_n hx hb dX1_init_0 rfl (lv_at hl 0 rfl) ?_
  refine W.objInit hx hb hown w0 w1 w2 rfl (by rw [hml]; exact hl.1) rfl dX1_init_1 (Nat.le_of_ble_eq_true rfl) (Nat.le_of_ble_eq_true rfl) ?_
  refine W.eq (g2 := F0 m 4 ls []) rfl ?_
  refine lv_aload_n hx hb dX1_init_4 rfl (lv_at hl 0 rfl) ?_
  refine lv_iload_n hx hb dX1_init_5 rfl (lv_at hl 1 rfl) ?_
  refine mq_putF (ci := 6) (v := .int (nI sk)) (ty := .int) (C := RX1) (T := TX1) (N := 5) (fs' := [.int (nI sk), .int 0, .null, .int 0, .int 0]) hx hb hts nX1 tyX1 tyX1_ok nmX1 hown hK hM hS h0 rfl 0 (by decide) w3 (fun _ h9 => h9) rfl hin rfl (by decide +kernel) rfl rfl (Nat.le_of_ble_eq_true rfl) dX1_init_6 rfl (fun f_1 H locs e_2 hM hS => ?_)
  have h_3 : f_1 x = some (.inr (6, [.int (nI sk), .int 0, .null, .int 0, .int 0])) := mq_s e_2
  refine lv_aload_n hx hb dX1_init_9 rfl (lv_at hl 0 rfl) ?_
  refine lv_iload_n hx hb dX1_init_10 rfl (lv_at hl 2 rfl) ?_
  refine lv_bipush (v := 14) hx hb dX1_init_11 (by decide) ?_
  refine lv_idiv hx hb dX1_init_13 (by decide) ?_
  rw [show (nI N) / 14 = nI (N / 14) from pk_div (a := N) (d := 14) (by omega) (by omega) (by omega)]
  refine lv_bipush (v := 10) hx hb dX1_init_14 (by decide) ?_
  refine lv_irem hx hb dX1_init_16 (by decide) ?_
  rw [show (nI (N / 14)) - (nI (N / 14)) / 10 * 10 = nI ((N / 14) % 10) from pk_rem (a := N / 14) (d := 10) (by omega) (by omega) (by omega)]
  refine lv_iconst (v := 4) hx hb dX1_init_17 (by decide) ?_
  refine lv_isub hx hb dX1_init_18 ?_
  refine mq_putF (ci := 6) (v := .int (ex_sol N)) (ty := .int) (C := RX1) (T := TX1) (N := 5) (fs' := [.int (nI sk), .int (ex_sol N), .null, .int 0, .int 0]) hx hb hts nX1 tyX1 tyX1_ok nmX1 hown hK hM hS h_3 rfl 1 (by decide) w4 (fun _ h9 => h9) rfl hin rfl (by decide +kernel) rfl rfl (Nat.le_of_ble_eq_true rfl) dX1_init_19 rfl (fun f_4 H locs e_5 hM hS => ?_)
  have h_6 : f_4 x = some (.inr (6, [.int (nI sk), .int (ex_sol N), .null, .int 0, .int 0])) := mq_s e_5
  refine lv_iconst (v := 2) hx hb dX1_init_22 (by decide) ?_
  refine lv_iload_n hx hb dX1_init_23 rfl (lv_at hl 2 rfl) ?_
  refine lv_bipush (v := 7) hx hb dX1_init_24 (by decide) ?_
  refine lv_irem hx hb dX1_init_26 (by decide) ?_
  rw [show (nI N) - (nI N) / 7 * 7 = nI (N % 7) from pk_rem (a := N) (d := 7) (by omega) (by omega) (by omega)]
  refine lv_iadd hx hb dX1_init_27 ?_
  rw [show 2 + (nI (N % 7)) = nI (2 + (N % 7)) from nI_add _ _]
  refine lv_istore_n (lv' := [(3, .int (nI (2 + (N % 7)))), (0, .ref x), (1, .int (nI sk)), (2, .int (nI N))]) hx hb dX1_init_28 rfl hl (by decide) rfl (fun ls hl => ?_)
  refine lv_iload_n hx hb dX1_init_29 rfl (lv_at hl 3 rfl) ?_
  refine lv_sipush (v := 140) hx hb dX1_init_30 (by decide) ?_
  refine lv_idiv hx hb dX1_init_33 (by decide) ?_
  rw [show (nI N) / 140 = nI (N / 140) from pk_div (a := N) (d := 140) (by omega) (by omega) (by omega)]
  refine lv_bipush (v := 9) hx hb dX1_init_34 (by decide) ?_
  refine lv_irem hx hb dX1_init_36 (by decide) ?_
  rw [show (nI (N / 140)) - (nI (N / 140)) / 9 * 9 = nI ((N / 140) % 9) from pk_rem (a := N / 140) (d := 9) (by omega) (by omega) (by omega)]
  refine lv_iconst (v := 4) hx hb dX1_init_37 (by decide) ?_
  refine lv_isub hx hb dX1_init_38 ?_
  refine lv_istore (lv' := [(4, .int (ex_b N)), (3, .int (nI (2 + (N % 7)))), (0, .ref x), (1, .int (nI sk)), (2, .int (nI N))]) hx hb dX1_init_39 hl (by decide) rfl (fun ls hl => ?_)
  refine lv_iload_n hx hb dX1_init_41 rfl (lv_at hl 4 rfl) ?_
  refine lv_bipush (v := 7) hx hb dX1_init_42 (by decide) ?_
  refine lv_idiv hx hb dX1_init_44 (by decide) ?_
  rw [show (nI N) / 7 = nI (N / 7) from pk_div (a := N) (d := 7) (by omega) (by omega) (by omega)]
  refine lv_iconst (v := 2) hx hb dX1_init_45 (by decide) ?_
  refine lv_irem hx hb dX1_init_46 (by decide) ?_
  rw [show (nI (N / 7)) - (nI (N / 7)) / 2 * 2 = nI ((N / 7) % 2) from pk_rem (a := N / 7) (d := 2) (by omega) (by omega) (by omega)]
  refine lv_istore (lv' := [(5, .int (nI ((N / 7) % 2))), (4, .int (ex_b N)), (3, .int (nI (2 + (N % 7)))), (0, .ref x), (1, .int (nI sk)), (2, .int (nI N))]) hx hb dX1_init_47 hl (by decide) rfl (fun ls hl => ?_)
  refine lv_aload_n hx hb dX1_init_49 rfl (lv_at hl 3 rfl) ?_
  refine mq_new (ci := 5) (fs := [.int 0, .int 0, .int 0, .int 0]) (C := RX0) (T := TX0) (N := 4) hx hb hts nX0 tyX0 tyX0_ok hown w5 w6 w7 hK hM hS hA rfl (fun j hj => by rcases (show j = 0 ∨ j = 1 ∨ j = 2 ∨ j = 3 by omega) with rfl | rfl | rfl | rfl <;> rfl) (Nat.le_of_ble_eq_true rfl) (Nat.le_of_ble_eq_true rfl) dX1_init_50 (fun q50 f_7 H hq50 e_8 hM hS => ?_)
  refine W.widen (k := 1) (n := 4) (Nat.le_of_ble_eq_true rfl) (Nat.le_of_ble_eq_true rfl) ?_
  have h_9 : f_7 x = some (.inr (6, [.int (nI sk), .int (ex_sol N), .null, .int 0, .int 0])) := mq_n e_8 h_6 (mq_neN h_6 hq50)
  have h_10 : f_7 q50 = some (.inr (5, [.int 0, .int 0, .int 0, .int 0])) := mq_s e_8
  refine lv_dup hx hb dX1_init_53 rfl ?_
  refine lv_iload_n hx hb dX1_init_54 rfl (lv_at hl 2 rfl) ?_
  refine lv_iload hx hb dX1_init_55 (lv_at hl 1 rfl) ?_
  refine lv_iload hx hb dX1_init_57 (lv_at hl 0 rfl) ?_
  refine lv_iload_n hx hb dX1_init_59 rfl (lv_at hl 2 rfl) ?_
  refine lv_aload_n hx hb dX1_init_60 rfl (lv_at hl 3 rfl) ?_
  refine mq_get (ci := 6) (v := .int (ex_sol N)) (C := RX1) (T := TX1) (N := 5) hx hb hts nX1 hown hK hM h_9 rfl 1 (by decide) w4 (fun _ h9 => h9) rfl dX1_init_61 ?_
  refine lv_imul hx hb dX1_init_64 ?_
  refine lv_iload hx hb dX1_init_65 (lv_at hl 1 rfl) ?_
  refine lv_iadd hx hb dX1_init_67 ?_
  refine lv_iload hx hb dX1_init_68 (lv_at hl 0 rfl) ?_
  refine lv_aload_n hx hb dX1_init_70 rfl (lv_at hl 3 rfl) ?_
  refine mq_get (ci := 6) (v := .int (ex_sol N)) (C := RX1) (T := TX1) (N := 5) hx hb hts nX1 hown hK hM h_9 rfl 1 (by decide) w4 (fun _ h9 => h9) rfl dX1_init_71 ?_
  refine lv_imul hx hb dX1_init_74 ?_
  refine lv_isub hx hb dX1_init_75 ?_
  refine mq_callv (va_runI (As := [.int (nI (2 + (N % 7))), .int (ex_b N), .int (nI ((N / 7) % 2)), .int ((((nI (2 + (N % 7))) * (ex_sol N)) + (ex_b N)) - ((nI ((N / 7) % 2)) * (ex_sol N)))]) (rest := [.ref q50, .ref x]) ⟨hx, hb, hml, hown, hts⟩ (c_X0_init l G A f_7 q50 (nI (2 + N % 7)) (ex_b N) (nI (N / 7 % 2)) (nI (2 + N % 7) * ex_sol N + ex_b N - nI (N / 7 % 2) * ex_sol N)) (cwI 4 hts gX1_init_X0_init rfl rfl rfl w7 w8 w9 rfl (by decide +kernel) ⟨Nat.le_of_ble_eq_true rfl, Nat.le_of_ble_eq_true rfl⟩) (mq_preS hK hZ hS hA hM (⟨(0, 0, 0, 0), h_10⟩) _) rfl rfl hl.1 rfl (lv_room (Nat.le_of_ble_eq_true rfl)) dX1_init_76 ⟨Nat.le_of_ble_eq_true rfl, Nat.le_of_ble_eq_true rfl⟩) hS (fun g76 H locs p76 hM hS => ?_)
  refine W.widen (k := 1) (n := 4) (Nat.le_of_ble_eq_true rfl) (Nat.le_of_ble_eq_true rfl) ?_
  have h_11 : g76 x = some (.inr (6, [.int (nI sk), .int (ex_sol N), .null, .int 0, .int 0])) := mq_n p76 h_9 (mq_neN h_6 hq50)
  have h_12 : g76 q50 = some (.inr (5, [.int (nI (2 + N % 7)), .int (ex_b N), .int (nI (N / 7 % 2)), .int (nI (2 + N % 7) * ex_sol N + ex_b N - nI (N / 7 % 2) * ex_sol N)])) := mq_s p76
  refine mq_put (ci := 6) (v := .ref q50) (ty := .object "Tutorlight$Equation") (C := RX1) (T := TX1) (N := 5) (fs' := [.int (nI sk), .int (ex_sol N), .ref q50, .int 0, .int 0]) hx hb hts nX1 tyX1 tyX1_ok nmX1 hown hK hM hS h_11 rfl 2 (by decide) w10 (fun _ h9 => h9) rfl (by decide +kernel) rfl rfl (Nat.le_of_ble_eq_true rfl) dX1_init_79 rfl (fun f_13 H locs e_14 hM hS => ?_)
  have h_15 : f_13 q50 = some (.inr (5, [.int (nI (2 + N % 7)), .int (ex_b N), .int (nI (N / 7 % 2)), .int (nI (2 + N % 7) * ex_sol N + ex_b N - nI (N / 7 % 2) * ex_sol N)])) := mq_n e_14 h_12 (Ne.symm (mq_neN h_6 hq50))
  have h_16 : f_13 x = some (.inr (6, [.int (nI sk), .int (ex_sol N), .ref q50, .int 0, .int 0])) := mq_s e_14
  exact mq_vret hx hb hr hlocks hM hS (by have k1 := mq_nn e_5 hq50; have k2 := mq_nn e_2 k1.1; exact ⟨q50, k2.1, k2.2, by rw [e_14, p76, e_8, e_5, e_2]; simp only [mq_uu]; exact mq_ucu k2.2.symm⟩) dX1_init_82

set_option maxHeartbeats 4000000 in
set_option maxRecDepth 100000 in
theorem c_X3_init (l : Launch) (G : mq_G) (A : Nat → Prop) (f : mq_F) (x : Nat) : Met l yX3_init wsX3_init ({ frames := 2, cells := 22, slots := 163, locals := 44 } : Room) (mq_Pc G A f (f x = some (.inr (8, [.null, .null, .null, .null, .int 0]))) [.ref x]) (mq_Qv G A (fun g => ∃ mA ln ma wo, lr_made G f g x mA ln ma wo)) 22 163 A := by
  refine Met.ofW (cc := cX3_init) (maxL := 2) (ret := none) (by decide) rfl ?_
  intro p e s m args below meth c s₁ B hml hv
  obtain ⟨rfl, ⟨hK, hZ, hM, hA⟩, hp⟩ := hv
  have hx := B.exec
  have hb := B.bytes
  have hr := B.returns
  have hts := atoms_spec (ws := wsX3_init) B.pre
  have hown : s.vm.findClass RX3 = some m.cls := findClass_of_methodNamed B.named
  have hlocks := B.notSynchronized
  have hin : meth.name = "<init>" := (name_of_methodNamed B.named B.method).1
  have hS : va_S A s.heap s.heap [] := va_S.rf
  have hl := lv_entry ([.ref x]) (n := 2) (Nat.le_of_ble_eq_true rfl)
  rw [lg_entry_eq]
  generalize (lg_sl ([.ref x]) ++ List.replicate (2 - (lg_sl ([.ref x])).length) Slot.unset).toArray = ls at hl ⊢
  have hl : lv_has ls 2 [(0, .ref x)] := hl
  have w0 := hts (.methodLink RX3 3 objectInit) (List.mem_of_getElem? (i := 1) rfl)
  have w1 := hts (.instanceMethod objectInit) (List.mem_of_getElem? (i := 2) rfl)
  have w2 := hts (.code objectInit ⟨#[0xb1]⟩ 1 none) (List.mem_of_getElem? (i := 3) rfl)
  have w3 := hts (.classLink RX3 9 RX4) (List.mem_of_getElem? (i := 4) rfl)
  have w4 := hts (.fieldLink RX3 11 "Tutorlight$Learner" "masteries" "[LTutorlight$Mastery;") (List.mem_of_getElem? (i := 5) rfl)
  have w5 := hts (.arrayClass .int) (List.mem_of_getElem? (i := 6) rfl)
  have w6 := hts (.fieldLink RX3 17 "Tutorlight$Learner" "lastNumbers" "[I") (List.mem_of_getElem? (i := 7) rfl)
  have w7 := hts (.instantiable RX4 7) (List.mem_of_getElem? (i := 8) rfl)
  have w8 := hts (.initialized RX4) (List.mem_of_getElem? (i := 9) rfl)
  have w9 := hts (.instanceMethod yX4_init) (List.mem_of_getElem? (i := 10) rfl)
  have nX3 : ∀ w ∈ wsX30, w ∈ wsX3_init := fun _ h => List.mem_cons_of_mem _ (List.mem_append_left _ (List.mem_append_left _ (List.mem_append_right _ h)))
  have nX4 : ∀ w ∈ wsX40, w ∈ wsX3_init := fun _ h => List.mem_cons_of_mem _ (List.mem_append_left _ (List.mem_append_right _ h))
  refine lv_aload_n hx hb dX3_init_0 rfl (lv_at hl 0 rfl) ?_
  refine W.objInit hx hb hown w0 w1 w2 rfl (by rw [hml]; exact hl.1) rfl dX3_init_1 (Nat.le_of_ble_eq_true rfl) (Nat.le_of_ble_eq_true rfl) ?_
  refine W.eq (g2 := F0 m 4 ls []) rfl ?_
  refine lv_aload_n hx hb dX3_init_4 rfl (lv_at hl 0 rfl) ?_
  refine lv_bipush (v := 10) hx hb dX3_init_5 (by decide) ?_
  refine mq_newq (t0 := 5) (N' := 10) hx hb rfl hown w3 (mq_over hZ (by decide +kernel)) hK hM hS hA (by decide) (rfl) (Nat.le_of_ble_eq_true rfl) (Nat.le_of_ble_eq_true rfl) (Nat.le_of_ble_eq_true rfl) dX3_init_7 (fun q7 f_1 H hq7 e_2 hM hS => ?_)
  refine W.widen (k := 1) (n := 10) (Nat.le_of_ble_eq_true rfl) (Nat.le_of_ble_eq_true rfl) ?_
  have h_3 : f_1 x = some (.inr (8, [.null, .null, .null, .null, .int 0])) := mq_n e_2 hp (mq_neN hp hq7)
  have h_4 : f_1 q7 = some (.inl (G.2 5, 10, .inr (.inr (.inr (.inr (fun _ => none)))))) := mq_s e_2
  refine mq_putF (ci := 8) (v := .ref q7) (ty := .array (.object "Tutorlight$Mastery")) (C := RX3) (T := TX3) (N := 5) (fs' := [.ref q7, .null, .null, .null, .int 0]) hx hb hts nX3 tyX3 tyX3_ok nmX3 hown hK hM hS h_3 rfl 0 (by decide) w4 (fun _ h9 => h9) rfl hin rfl (by decide +kernel) rfl rfl (Nat.le_of_ble_eq_true rfl) dX3_init_10 rfl (fun f_5 H locs e_6 hM hS => ?_)
  have h_7 : f_5 q7 = some (.inl (G.2 5, 10, .inr (.inr (.inr (.inr (fun _ => none)))))) := mq_n e_6 h_4 (Ne.symm (mq_neN hp hq7))
  have h_8 : f_5 x = some (.inr (8, [.ref q7, .null, .null, .null, .int 0])) := mq_s e_6
  refine lv_aload_n hx hb dX3_init_13 rfl (lv_at hl 0 rfl) ?_
  refine lv_iconst (v := 3) hx hb dX3_init_14 (by decide) ?_
  refine mq_newI (N' := 3) hx hb w5 hK hM hS hA (by decide) (rfl) (Nat.le_of_ble_eq_true rfl) (Nat.le_of_ble_eq_true rfl) (Nat.le_of_ble_eq_true rfl) dX3_init_15 (fun q15 f_9 H hq15 e_10 hM hS => ?_)
  refine W.widen (k := 2) (n := 13) (Nat.le_of_ble_eq_true rfl) (Nat.le_of_ble_eq_true rfl) ?_
  have h_11 : f_9 q7 = some (.inl (G.2 5, 10, .inr (.inr (.inr (.inr (fun _ => none)))))) := mq_n e_10 h_7 (mq_neN h_7 hq15)
  have h_12 : f_9 x = some (.inr (8, [.ref q7, .null, .null, .null, .int 0])) := mq_n e_10 h_8 (mq_neN h_8 hq15)
  have h_13 : f_9 q15 = some (.inl (G.2 0, 3, .inl (fun _ => 0))) := mq_s e_10
  refine mq_putF (ci := 8) (v := .ref q15) (ty := .array (.int)) (C := RX3) (T := TX3) (N := 5) (fs' := [.ref q7, .null, .null, .ref q15, .int 0]) hx hb hts nX3 tyX3 tyX3_ok nmX3 hown hK hM hS h_12 rfl 3 (by decide) w6 (fun _ h9 => h9) rfl hin rfl (by decide +kernel) rfl rfl (Nat.le_of_ble_eq_true rfl) dX3_init_17 rfl (fun f_14 H locs e_15 hM hS => ?_)
  have h_16 : f_14 q7 = some (.inl (G.2 5, 10, .inr (.inr (.inr (.inr (fun _ => none)))))) := mq_n e_15 h_11 (Ne.symm (mq_neN hp hq7))
  have h_17 : f_14 q15 = some (.inl (G.2 0, 3, .inl (fun _ => 0))) := mq_n e_15 h_13 (Ne.symm (mq_neN h_8 hq15))
  have h_18 : f_14 x = some (.inr (8, [.ref q7, .null, .null, .ref q15, .int 0])) := mq_s e_15
  have hf15 : f q15 = none := mq_fr e_2 (mq_fr e_6 hq15)
  refine lv_iconst (v := 0) hx hb dX3_init_20 (by decide) ?_
  refine lv_istore_n (lv' := [(1, .int 0), (0, .ref x)]) hx hb dX3_init_21 rfl hl (by decide) rfl (fun ls hl => ?_)
  have K22 : ∀ (n9 : Nat) (i : Nat) (ma wo : Nat → Nat), (10 - i) < n9 → (i ≤ 10) → ∀ (f9 : mq_F), f9 x = some (.inr (8, [.ref q7, .null, .null, .ref q15, .int 0])) → f9 q7 = some (.inl (G.2 5, 10, .inr (.inr (.inr (.inr (rf_of i ma)))))) → f9 q15 = some (.inl (G.2 0, 3, .inl (fun _ => 0))) → (lr_I cMa0 (cWo G (fun _ => 0)) f f9 x ma wo i) → ∀ (H : Heap) (locs : List Loc), mq_W G.1 A f9 H → va_S A s.heap H locs → ∀ (ls : Array Slot), lv_has ls 2 [(0, .ref x), (1, .int (nI i))] → W p l e (headSpec wsX3_init ({ frames := 2, cells := 22, slots := 163, locals := 44 } : Room)).room s m ([.ref x] : List Value).toArray below meth c H locs ((2 + 2 * i)) ((13 + 15 * i)) (MQ below (mq_Qv G A (fun g => ∃ mA ln ma wo, lr_made G f g x mA ln ma wo)) ([.ref x] : List Value).toArray s 22 163 A) (F0 m 22 ls []) := by
    intro n9
    induction n9 with
    | zero => intro i ma wo hn9; exact absurd hn9 (Nat.not_lt_zero _)
    | succ n9 ih22 =>
      intro i ma wo hn9 hi f9 hx0 h7 h15 hI H locs hM hS ls hl
      refine lv_iload_n hx hb dX3_init_22 rfl (lv_at hl 1 rfl) ?_
      refine lv_aload_n hx hb dX3_init_23 rfl (lv_at hl 0 rfl) ?_
      refine mq_get (ci := 8) (v := .ref q7) (C := RX3) (T := TX3) (N := 5) hx hb hts nX3 hown hK hM hx0 rfl 0 (by decide) w4 (fun _ h9 => h9) rfl dX3_init_24 ?_
      refine mq_alen (t0 := 5) (v := 10) hx hb hK hM rfl h7 rfl dX3_init_27 ?_
      refine lv_icmp_ge (tgt := 50) hx hb dX3_init_28 (by decide) (fun c_28 => ?_) (fun c_28 => ?_)
      · replace c_28 : nI 10 ≤ nI i := c_28
        rw [nI_leI (by omega) (by omega)] at c_28
        obtain rfl : i = 10 := by omega
        refine lv_iconst (v := 0) hx hb dX3_init_50 (by decide) ?_
        refine lv_istore_n (lv' := [(1, .int 0), (0, .ref x)]) hx hb dX3_init_51 rfl hl (by decide) rfl (fun ls hl => ?_)
        refine lv_iload_n hx hb dX3_init_52 rfl (lv_at hl 0 rfl) ?_
        refine lv_aload_n hx hb dX3_init_53 rfl (lv_at hl 1 rfl) ?_
        refine mq_get (ci := 8) (v := .ref q15) (C := RX3) (T := TX3) (N := 5) hx hb hts nX3 hown hK hM hx0 rfl 3 (by decide) w6 (fun _ h9 => h9) rfl dX3_init_54 ?_
        refine mq_alen (t0 := 0) (v := 3) hx hb hK hM rfl h15 rfl dX3_init_57 ?_
        refine lv_icmp_ge (tgt := 74) hx hb dX3_init_58 (by decide) (fun c_58 => absurd c_58 (by decide)) (fun c_58 => ?_)
        refine lv_aload_n hx hb dX3_init_61 rfl (lv_at hl 1 rfl) ?_
        refine mq_get (ci := 8) (v := .ref q15) (C := RX3) (T := TX3) (N := 5) hx hb hts nX3 hown hK hM hx0 rfl 3 (by decide) w6 (fun _ h9 => h9) rfl dX3_init_62 ?_
        refine lv_iload_n hx hb dX3_init_65 rfl (lv_at hl 0 rfl) ?_
        refine lv_iconst (v := (-1)) hx hb dX3_init_66 (by decide) ?_
        refine mq_iast hx hb hK hM hS h15 (vp_in_nI (n := 0) (by decide) (by decide)) dX3_init_67 (fun f_19 H locs e_20 hM hS => ?_)
        rw [show (0 : Int32).toNatClampNeg = 0 from rfl] at e_20
        have h_21 : f_19 x = some (.inr (8, [.ref q7, .null, .null, .ref q15, .int 0])) := mq_n e_20 hx0 (mq_neN h_8 hq15)
        have h_22 : f_19 q7 = some (.inl (G.2 5, 10, .inr (.inr (.inr (.inr (rf_of 10 ma)))))) := mq_n e_20 h7 (mq_neN h_7 hq15)
        have h_23 : f_19 q15 = some (.inl (G.2 0, 3, .inl (upd (fun _ => 0) 0 (-1)))) := mq_s e_20
        refine lv_iinc (v := 1) (lv' := [(1, .int 1), (0, .ref x)]) hx hb dX3_init_68 hl (k := 0) rfl (by decide) (by decide) rfl (fun ls hl => ?_)
        refine lv_goto (tgt := 52) hx hb dX3_init_71 (by decide) ?_
        refine lv_iload_n hx hb dX3_init_52 rfl (lv_at hl 0 rfl) ?_
        refine lv_aload_n hx hb dX3_init_53 rfl (lv_at hl 1 rfl) ?_
        refine mq_get (ci := 8) (v := .ref q15) (C := RX3) (T := TX3) (N := 5) hx hb hts nX3 hown hK hM h_21 rfl 3 (by decide) w6 (fun _ h9 => h9) rfl dX3_init_54 ?_
        refine mq_alen (t0 := 0) (v := 3) hx hb hK hM rfl h_23 rfl dX3_init_57 ?_
        refine lv_icmp_ge (tgt := 74) hx hb dX3_init_58 (by decide) (fun c_58 => absurd c_58 (by decide)) (fun c_58 => ?_)
        refine lv_aload_n hx hb dX3_init_61 rfl (lv_at hl 1 rfl) ?_
        refine mq_get (ci := 8) (v := .ref q15) (C := RX3) (T := TX3) (N := 5) hx hb hts nX3 hown hK hM h_21 rfl 3 (by decide) w6 (fun _ h9 => h9) rfl dX3_init_62 ?_
        refine lv_iload_n hx hb dX3_init_65 rfl (lv_at hl 0 rfl) ?_
        refine lv_iconst (v := (-1)) hx hb dX3_init_66 (by decide) ?_
        refine mq_iast hx hb hK hM hS h_23 (vp_in_nI (n := 1) (by decide) (by decide)) dX3_init_67 (fun f_25 H locs e_26 hM hS => ?_)
        rw [show (1 : Int32).toNatClampNeg = 1 from rfl] at e_26
        have h_27 : f_25 x = some (.inr (8, [.ref q7, .null, .null, .ref q15, .int 0])) := mq_n e_26 h_21 (mq_neN h_8 hq15)
        have h_28 : f_25 q7 = some (.inl (G.2 5, 10, .inr (.inr (.inr (.inr (rf_of 10 ma)))))) := mq_n e_26 h_22 (mq_neN h_7 hq15)
        have h_29 : f_25 q15 = some (.inl (G.2 0, 3, .inl (upd (upd (fun _ => 0) 0 (-1)) 1 (-1)))) := mq_s e_26
        refine lv_iinc (v := 2) (lv' := [(1, .int 2), (0, .ref x)]) hx hb dX3_init_68 hl (k := 0) rfl (by decide) (by decide) rfl (fun ls hl => ?_)
        refine lv_goto (tgt := 52) hx hb dX3_init_71 (by decide) ?_
        refine lv_iload_n hx hb dX3_init_52 rfl (lv_at hl 0 rfl) ?_
        refine lv_aload_n hx hb dX3_init_53 rfl (lv_at hl 1 rfl) ?_
        refine mq_get (ci := 8) (v := .ref q15) (C := RX3) (T := TX3) (N := 5) hx hb hts nX3 hown hK hM h_27 rfl 3 (by decide) w6 (fun _ h9 => h9) rfl dX3_init_54 ?_
        refine mq_alen (t0 := 0) (v := 3) hx hb hK hM rfl h_29 rfl dX3_init_57 ?_
        refine lv_icmp_ge (tgt := 74) hx hb dX3_init_58 (by decide) (fun c_58 => absurd c_58 (by decide)) (fun c_58 => ?_)
        refine lv_aload_n hx hb dX3_init_61 rfl (lv_at hl 1 rfl) ?_
        refine mq_get (ci := 8) (v := .ref q15) (C := RX3) (T := TX3) (N := 5) hx hb hts nX3 hown hK hM h_27 rfl 3 (by decide) w6 (fun _ h9 => h9) rfl dX3_init_62 ?_
        refine lv_iload_n hx hb dX3_init_65 rfl (lv_at hl 0 rfl) ?_
        refine lv_iconst (v := (-1)) hx hb dX3_init_66 (by decide) ?_
        refine mq_iast hx hb hK hM hS h_29 (vp_in_nI (n := 2) (by decide) (by decide)) dX3_init_67 (fun f_31 H locs e_32 hM hS => ?_)
        rw [show (2 : Int32).toNatClampNeg = 2 from rfl] at e_32
        have h_33 : f_31 x = some (.inr (8, [.ref q7, .null, .null, .ref q15, .int 0])) := mq_n e_32 h_27 (mq_neN h_8 hq15)
        have h_34 : f_31 q7 = some (.inl (G.2 5, 10, .inr (.inr (.inr (.inr (rf_of 10 ma)))))) := mq_n e_32 h_28 (mq_neN h_7 hq15)
        have h_35 : f_31 q15 = some (.inl (G.2 0, 3, .inl (upd (upd (upd (fun _ => 0) 0 (-1)) 1 (-1)) 2 (-1)))) := mq_s e_32
        refine lv_iinc (v := 3) (lv' := [(1, .int 3), (0, .ref x)]) hx hb dX3_init_68 hl (k := 0) rfl (by decide) (by decide) rfl (fun ls hl => ?_)
        refine lv_goto (tgt := 52) hx hb dX3_init_71 (by decide) ?_
        refine lv_iload_n hx hb dX3_init_52 rfl (lv_at hl 0 rfl) ?_
        refine lv_aload_n hx hb dX3_init_53 rfl (lv_at hl 1 rfl) ?_
        refine mq_get (ci := 8) (v := .ref q15) (C := RX3) (T := TX3) (N := 5) hx hb hts nX3 hown hK hM h_33 rfl 3 (by decide) w6 (fun _ h9 => h9) rfl dX3_init_54 ?_
        refine mq_alen (t0 := 0) (v := 3) hx hb hK hM rfl h_35 rfl dX3_init_57 ?_
        refine lv_icmp_ge (tgt := 74) hx hb dX3_init_58 (by decide) (fun c_58 => ?_) (fun c_58 => absurd c_58 (by decide))
        refine W.widen (k := 22) (n := 163) (by omega) (by omega) ?_
        exact mq_vret hx hb hr hlocks hM hS (by have n15 : ∀ k, k < 10 → ma k ≠ q15 ∧ wo k ≠ q15 := fun k hk => ⟨mq_neA (hI.1 k hk).1 h15, mq_neCli (hI.1 k hk).2.1 h15⟩; exact ⟨q7, q15, ma, wo, lr_keep (lr_keep (lr_keep hI e_20 hf15 n15) e_26 hf15 n15) e_32 hf15 n15, hq7, hf15, h_33, h_34, by rw [h_35]; exact congrArg (fun w => some (cIn G 3 w)) m1_fn⟩) dX3_init_74
      · replace c_28 : ¬ nI 10 ≤ nI i := c_28
        rw [nI_leI (by omega) (by omega)] at c_28
        refine lv_aload_n hx hb dX3_init_31 rfl (lv_at hl 0 rfl) ?_
        refine mq_get (ci := 8) (v := .ref q7) (C := RX3) (T := TX3) (N := 5) hx hb hts nX3 hown hK hM hx0 rfl 0 (by decide) w4 (fun _ h9 => h9) rfl dX3_init_32 ?_
        refine lv_iload_n hx hb dX3_init_35 rfl (lv_at hl 1 rfl) ?_
        refine mq_new (ci := 9) (fs := [.int 0, .int 0, .int 0, .int 0, .int 0, .int 0, .null]) (C := RX4) (T := TX4) (N := 7) hx hb hts nX4 tyX4 tyX4_ok hown w3 w7 w8 hK hM hS hA rfl (fun j hj => by rcases (show j = 0 ∨ j = 1 ∨ j = 2 ∨ j = 3 ∨ j = 4 ∨ j = 5 ∨ j = 6 by omega) with rfl | rfl | rfl | rfl | rfl | rfl | rfl <;> rfl) (by show ((2 + 2 * i)) + 1 ≤ 22; omega) (by show ((13 + 15 * i)) + 7 ≤ 163; omega) dX3_init_36 (fun q36 f_37 H hq36 e_38 hM hS => ?_)
        refine W.widen (k := ((2 + 2 * i) + 1)) (n := ((13 + 15 * i) + 7)) (by omega) (by omega) ?_
        have h_39 : f_37 x = some (.inr (8, [.ref q7, .null, .null, .ref q15, .int 0])) := mq_n e_38 hx0 (mq_neN hx0 hq36)
        have h_40 : f_37 q7 = some (.inl (G.2 5, 10, .inr (.inr (.inr (.inr (rf_of i ma)))))) := mq_n e_38 h7 (mq_neN h7 hq36)
        have h_41 : f_37 q15 = some (.inl (G.2 0, 3, .inl (fun _ => 0))) := mq_n e_38 h15 (mq_neN h15 hq36)
        have h_42 : f_37 q36 = some (.inr (9, [.int 0, .int 0, .int 0, .int 0, .int 0, .int 0, .null])) := mq_s e_38
        refine lv_dup hx hb dX3_init_39 rfl ?_
        refine mq_callv (va_runIN (As := []) (rest := [.ref q36, .int (nI i), .ref q7]) ⟨hx, hb, hml, hown, hts⟩ (c_X4_init l G A f_37 q36) (⟨va_cnB 0 hts gX3_init_X4_init_n21 rfl rfl rfl (mq_nestM (host := "Tutorlight") hZ (by decide +kernel)) w8 (by decide +kernel) ⟨Nat.le_of_ble_eq_true rfl, Nat.le_of_ble_eq_true rfl⟩, rfl, w9⟩) (mq_preS hK hZ hS hA hM (h_42) _) rfl rfl hl.1 rfl (lv_room (Nat.le_of_ble_eq_true rfl)) dX3_init_40 ⟨by show ((2 + 2 * i) + 1) + 1 ≤ 22; omega, by show ((13 + 15 * i) + 7) + 8 ≤ 163; omega⟩) hS (fun g40 H locs p40 hM hS => ?_)
        refine W.widen (k := ((2 + 2 * i) + 2)) (n := ((13 + 15 * i) + 15)) (by omega) (by omega) ?_
        obtain ⟨w40, hw40, hn40, e40⟩ := p40
        obtain ⟨fw40, ew40⟩ : ∃ h, h = mq_up f_37 w40 (cWo G (fun _ => 0)) := ⟨_, rfl⟩
        rw [← ew40] at e40
        have h_43 : fw40 x = some (.inr (8, [.ref q7, .null, .null, .ref q15, .int 0])) := mq_n ew40 h_39 (mq_neN h_39 hw40)
        have h_44 : fw40 q7 = some (.inl (G.2 5, 10, .inr (.inr (.inr (.inr (rf_of i ma)))))) := mq_n ew40 h_40 (mq_neN h_40 hw40)
        have h_45 : fw40 q15 = some (.inl (G.2 0, 3, .inl (fun _ => 0))) := mq_n ew40 h_41 (mq_neN h_41 hw40)
        have h_46 : fw40 q36 = some (.inr (9, [.int 0, .int 0, .int 0, .int 0, .int 0, .int 0, .null])) := mq_n ew40 h_42 (mq_neN h_42 hw40)
        have h_47 : fw40 w40 = some (.inl (G.2 1, 8, .inr (.inl (fun _ => 0)))) := mq_s ew40
        have h_48 : g40 x = some (.inr (8, [.ref q7, .null, .null, .ref q15, .int 0])) := mq_n e40 h_43 (mq_neN hx0 hq36)
        have h_49 : g40 q7 = some (.inl (G.2 5, 10, .inr (.inr (.inr (.inr (rf_of i ma)))))) := mq_n e40 h_44 (mq_neN h7 hq36)
        have h_50 : g40 q15 = some (.inl (G.2 0, 3, .inl (fun _ => 0))) := mq_n e40 h_45 (mq_neN h15 hq36)
        have h_51 : g40 w40 = some (.inl (G.2 1, 8, .inr (.inl (fun _ => 0)))) := mq_n e40 h_47 (Ne.symm (mq_neN h_42 hw40))
        have h_52 : g40 q36 = some (.inr (9, [.int (nI 200), .int (nI 0), .int (du 0), .int (zb false), .int (nI 200), .int (nI 0), .ref w40])) := mq_s e40
        refine mq_aast (t0 := 5) (ci := 9) hx hb hK hM hS rfl h_49 h_52 rfl (vp_in_nI (by omega) (by omega)) dX3_init_43 (fun f_53 H locs e_54 hM hS => ?_)
        rw [show (nI i : Int32).toNatClampNeg = i from nI_clamp (by omega)] at e_54
        rw [show (va_up (rf_of i ma) i (some q36)) = (rf_of (i + 1) (fun k => if k = i then q36 else ma k)) from rf_S] at e_54
        have h_55 : f_53 x = some (.inr (8, [.ref q7, .null, .null, .ref q15, .int 0])) := mq_n e_54 h_48 (mq_neN hp hq7)
        have h_56 : f_53 q15 = some (.inl (G.2 0, 3, .inl (fun _ => 0))) := mq_n e_54 h_50 (Ne.symm (mq_neN h_7 hq15))
        have h_57 : f_53 w40 = some (.inl (G.2 1, 8, .inr (.inl (fun _ => 0)))) := mq_n e_54 h_51 (Ne.symm (mq_neN h_40 hw40))
        have h_58 : f_53 q36 = some (.inr (9, [.int (nI 200), .int (nI 0), .int (du 0), .int (zb false), .int (nI 200), .int (nI 0), .ref w40])) := mq_n e_54 h_52 (Ne.symm (mq_neN h7 hq36))
        have h_59 : f_53 q7 = some (.inl (G.2 5, 10, .inr (.inr (.inr (.inr (rf_of (i + 1) (fun k => if k = i then q36 else ma k))))))) := mq_s e_54
        refine lv_iinc (v := nI (i + 1)) (lv' := [(1, .int (nI (i + 1))), (0, .ref x)]) hx hb dX3_init_44 hl (k := 1) rfl (nI_add _ _) (by decide) rfl (fun ls hl => ?_)
        refine lv_goto (tgt := 22) hx hb dX3_init_47 (by decide) ?_
        have hk1 : ∀ y e, y ≠ q7 → y ≠ q7 → f9 y = some e → f_53 y = some e := fun y9 e9 n1 _ he => by have n2 := mq_neN he hq36; have kp0 := mq_n e_38 he (mq_neN he hq36); have kp1 := mq_n ew40 kp0 (mq_neN kp0 hw40); have kp2 := mq_n e40 kp1 (n2); have kp3 := mq_n e_54 kp2 (n1); exact kp3
        exact W.widen (by omega) (by omega) (ih22 (i + 1) (fun k => if k = i then q36 else ma k) (fun k => if k = i then w40 else wo k) (by omega) (by omega) _ h_55 h_59 h_56 (lr_step hI hx0 hq36 (mq_fr e_38 hw40) hn40.symm hk1 hq7 hq7 (fun k hk => ⟨mq_neA (hI.1 k hk).1 h7, mq_neClq (hI.1 k hk).2.1 h7, mq_neA (hI.1 k hk).1 h7, mq_neClq (hI.1 k hk).2.1 h7⟩) h_58 h_57) _ _ hM hS _ (lv_sub hl [1, 0] rfl))
  have hk0 : ∀ y e, y ≠ x → f y = some e → f_14 y = some e := fun y9 e9 hy he => by have kp0 := mq_n e_2 he (mq_neN he hq7); have kp1 := mq_n e_6 kp0 (hy); have kp2 := mq_n e_10 kp1 (mq_neN kp1 hq15); have kp3 := mq_n e_15 kp2 (hy); exact kp3
  exact W.widen (by omega) (by omega) (K22 _ 0 (fun _ => 0) (fun _ => 0) (Nat.lt_succ_self _) (Nat.zero_le _) _ h_18 h_16 h_17 (lr_0 hk0) _ _ hM hS _ (lv_sub hl [1, 0] rfl))
