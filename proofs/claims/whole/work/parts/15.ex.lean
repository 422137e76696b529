/-! LEARNERS' LAST NUMBERS; THE EXPLAINER -/
theorem ni_subpos {a b : Nat} (ha : a < 2 ^ 30) (hb : b < 2 ^ 30) : 0 < nI a - nI b ↔ b < a := by
  rw [Int32.lt_iff_toInt_lt, pk_sub_toInt ha hb, show (0 : Int32).toInt = 0 from rfl]; omega
theorem ni_sub0 {a b : Nat} (ha : a < 2 ^ 30) (hb : b < 2 ^ 30) : nI a - nI b = 0 ↔ a = b := by
  rw [i32_eqI, pk_sub_toInt ha hb, show (0 : Int32).toInt = 0 from rfl]; omega
theorem or_nI (a b : Nat) : nI a ||| nI b = nI (a ||| b) := by
  apply Int32.toBitVec_inj.mp
  rw [Int32.toBitVec_or]
  apply BitVec.eq_of_toNat_eq
  show ((BitVec.ofNat 32 a) ||| (BitVec.ofNat 32 b)).toNat = (BitVec.ofNat 32 (a ||| b)).toNat
  rw [BitVec.toNat_or, BitVec.toNat_ofNat, BitVec.toNat_ofNat, BitVec.toNat_ofNat, Nat.or_mod_two_pow]
theorem du_nI {b : Nat} (h : b ≠ 0) : du b = nI (b - 1) := by
  obtain ⟨k, rfl⟩ : ∃ k, b = k + 1 := ⟨b - 1, by omega⟩
  rw [du_S]; rfl
def cst (m : Nat) : Nat := 100 * pcn m + m
/-- whether a set is better than the best so far (0 : none, else one more than the set) -/
def bet (b m : Nat) : Bool := decide (b = 0 ∨ cst m < cst (b - 1))
theorem pcn_le (m : Nat) : pcn m ≤ 5 := by unfold pcn; omega
def skS (S : eqT → Nat → Nat → Nat) (e : eqT) (m b i : Nat) : Nat :=
  if eq_rule i true e ≠ eq_rule i false e then S (eq_rule i true e) (m ||| 2 ^ i) (if eq_rule i false e ≠ e then S (eq_rule i false e) m b else b) else (if eq_rule i false e ≠ e then S (eq_rule i false e) m b else b)
def skL (S : eqT → Nat → Nat → Nat) (e : eqT) (m b : Nat) : Nat → Nat
  | 0 => b
  | i + 1 => skS S e m (skL S e m b i) i
/-- the search: the best set behind it -/
def sk (t : eqT) : Nat → eqT → Nat → Nat → Nat
  | 0, e, m, b => if bet b m then (if e = t then m + 1 else b) else b
  | d + 1, e, m, b => if bet b m then (if e = t then m + 1 else skL (sk t d) e m b 5) else b
theorem or_lt32 {m i : Nat} (hm : m < 32) (hi : i < 5) : m ||| 2 ^ i < 32 := Nat.or_lt_two_pow (n := 5) hm (Nat.pow_lt_pow_right (by decide) hi)
theorem skL_lt {S : eqT → Nat → Nat → Nat} {e : eqT} {m b : Nat} (hS : ∀ e m b, m < 32 → b < 33 → S e m b < 33) (hm : m < 32) (hb : b < 33) : ∀ i, i ≤ 5 → skL S e m b i < 33
  | 0, _ => hb
  | i + 1, hi => by
    have ih := skL_lt (e := e) hS hm hb i (by omega)
    have ho := or_lt32 hm (show i < 5 by omega)
    show skS S e m (skL S e m b i) i < 33
    unfold skS
    have h1 : (if eq_rule i false e ≠ e then S (eq_rule i false e) m (skL S e m b i) else skL S e m b i) < 33 := by
      split
      · exact hS _ _ _ hm ih
      · exact ih
    split
    · exact hS _ _ _ ho h1
    · exact h1
theorem sk_lt (t : eqT) : ∀ (d : Nat) (e : eqT) (m b : Nat), m < 32 → b < 33 → sk t d e m b < 33
  | 0, e, m, b, hm, hb => by unfold sk; split <;> (try split) <;> omega
  | d + 1, e, m, b, hm, hb => by
    unfold sk
    split
    · split
      · omega
      · exact skL_lt (sk_lt t d) hm hb 5 (Nat.le_refl 5)
    · exact hb
abbrev cXp (rA bA : Nat) (so : Option Nat) (b : Nat) : va_E := .inr (7, [.ref rA, .ref bA, va_rf so, .int (du b)])
def xpC (G : mq_G) (f : mq_F) (x rA bA : Nat) (so : Option Nat) (er eb : Nat → Nat) (b : Nat) : Prop := f x = some (cXp rA bA so b) ∧ f rA = some (cRf (G.2 3) 3 (rf_of 3 er)) ∧ f bA = some (cRf (G.2 3) 3 (rf_of 3 eb)) ∧ ∀ k, k < 3 → (∃ q : eqT, f (er k) = some (cEq q)) ∧ ∃ q : eqT, f (eb k) = some (cEq q)
def xpD (er eb : Nat → Nat) : Prop := ∀ a b, a < 3 → b < 3 → (er a = er b → a = b) ∧ (eb a = eb b → a = b) ∧ er a ≠ eb b
theorem xp_putR {G : mq_G} {f g : mq_F} {x rA bA b L : Nat} {so : Option Nat} {er eb : Nat → Nat} {q : eqT} (h : xpC G f x rA bA so er eb b) (hD : xpD er eb) (hL : L < 3) (hg : g = mq_up f (er L) (cEq q)) : xpC G g x rA bA so er eb b := by
  obtain ⟨h1, h2, h3, h4⟩ := h
  obtain ⟨⟨q0, hq0⟩, -⟩ := h4 L hL
  refine ⟨mq_n hg h1 (mq_neO h1 hq0 (by decide)), mq_n hg h2 (mq_neB h2 hq0), mq_n hg h3 (mq_neB h3 hq0), fun k hk => ⟨?_, ?_⟩⟩
  · by_cases hkL : k = L
    · subst hkL; exact ⟨q, mq_s hg⟩
    · obtain ⟨q1, hq1⟩ := (h4 k hk).1
      exact ⟨q1, mq_n hg hq1 (fun w => hkL ((hD k L hk hL).1 w))⟩
  · obtain ⟨q1, hq1⟩ := (h4 k hk).2
    exact ⟨q1, mq_n hg hq1 (fun w => (hD L k hL hk).2.2 w.symm)⟩
theorem xp_putB {G : mq_G} {f g : mq_F} {x rA bA b L : Nat} {so : Option Nat} {er eb : Nat → Nat} {q : eqT} (h : xpC G f x rA bA so er eb b) (hD : xpD er eb) (hL : L < 3) (hg : g = mq_up f (eb L) (cEq q)) : xpC G g x rA bA so er eb b := by
  obtain ⟨h1, h2, h3, h4⟩ := h
  obtain ⟨-, ⟨q0, hq0⟩⟩ := h4 L hL
  refine ⟨mq_n hg h1 (mq_neO h1 hq0 (by decide)), mq_n hg h2 (mq_neB h2 hq0), mq_n hg h3 (mq_neB h3 hq0), fun k hk => ⟨?_, ?_⟩⟩
  · obtain ⟨q1, hq1⟩ := (h4 k hk).1
    exact ⟨q1, mq_n hg hq1 (fun w => (hD k L hk hL).2.2 w)⟩
  · by_cases hkL : k = L
    · subst hkL; exact ⟨q, mq_s hg⟩
    · obtain ⟨q1, hq1⟩ := (h4 k hk).2
      exact ⟨q1, mq_n hg hq1 (fun w => hkL ((hD k L hk hL).2.1 w))⟩
theorem xp_putX {G : mq_G} {f g : mq_F} {x rA bA b b' : Nat} {so so' : Option Nat} {er eb : Nat → Nat} (h : xpC G f x rA bA so er eb b) (hg : g = mq_up f x (cXp rA bA so' b')) : xpC G g x rA bA so' er eb b' := by
  obtain ⟨h1, h2, h3, h4⟩ := h
  refine ⟨mq_s hg, mq_n hg h2 (mq_neB h2 h1), mq_n hg h3 (mq_neB h3 h1), fun k hk => ⟨?_, ?_⟩⟩
  · obtain ⟨q1, hq1⟩ := (h4 k hk).1
    exact ⟨q1, mq_n hg hq1 (mq_neO hq1 h1 (by decide))⟩
  · obtain ⟨q1, hq1⟩ := (h4 k hk).2
    exact ⟨q1, mq_n hg hq1 (mq_neO hq1 h1 (by decide))⟩
/-- nothing but the explainer's own cells from the length L on differs -/
def xpF (f g : mq_F) (x : Nat) (er eb : Nat → Nat) (L : Nat) : Prop := ∀ y, y ≠ x → (∀ k, L ≤ k → k < 3 → y ≠ er k ∧ y ≠ eb k) → g y = f y
theorem xpF_refl {f : mq_F} {x L : Nat} {er eb : Nat → Nat} : xpF f f x er eb L := fun _ _ _ => rfl
theorem xpF_up {f g h : mq_F} {x L : Nat} {er eb : Nat → Nat} (h1 : xpF f g x er eb L) (h2 : xpF g h x er eb (L + 1)) : xpF f h x er eb L := fun y n1 n2 => (h2 y n1 (fun k a b => n2 k (by omega) b)).trans (h1 y n1 n2)
theorem xpF_R {f g h : mq_F} {x L : Nat} {er eb : Nat → Nat} {e : va_E} (h1 : xpF f g x er eb L) (hL : L < 3) (hg : h = mq_up g (er L) e) : xpF f h x er eb L := fun y n1 n2 => by rw [hg, mq_up_n (n2 L (Nat.le_refl L) hL).1]; exact h1 y n1 n2
theorem xpF_B {f g h : mq_F} {x L : Nat} {er eb : Nat → Nat} {e : va_E} (h1 : xpF f g x er eb L) (hL : L < 3) (hg : h = mq_up g (eb L) e) : xpF f h x er eb L := fun y n1 n2 => by rw [hg, mq_up_n (n2 L (Nat.le_refl L) hL).2]; exact h1 y n1 n2
theorem xpF_x {f g h : mq_F} {x L : Nat} {er eb : Nat → Nat} {e : va_E} (h1 : xpF f g x er eb L) (hg : h = mq_up g x e) : xpF f h x er eb L := fun y n1 n2 => by rw [hg, mq_up_n n1]; exact h1 y n1 n2

set_option maxHeartbeats 4000000 in
set_option maxRecDepth 100000 in
theorem c_X3_remembers (l : Launch) (G : mq_G) (A : Nat → Prop) (f : mq_F) (x mA ln old : Nat) (ex ws : Option Nat) (fn : Nat → Int32) (k : Int32) : Met l yX3_remembers wsX3_remembers ({ frames := 0, cells := 0, slots := 0, locals := 0 } : Room) (mq_Pc G A f (f x = some (cLe mA ex ws ln old) ∧ f ln = some (cIn G 3 fn)) [.ref x, .int k]) (mq_Qi G A (fun r g => f = g ∧ r = zb (decide (fn 0 = k ∨ fn 1 = k ∨ fn 2 = k)))) 0 0 A := by
  refine Met.ofW (cc := cX3_remembers) (maxL := 3) (ret := (some .boolean)) (by decide) rfl ?_
  intro p e s m args below meth c s₁ B hml hv
  obtain ⟨rfl, ⟨hK, hZ, hM, hA⟩, hp⟩ := hv
  have hx := B.exec
  have hb := B.bytes
  have hr := B.returns
  have hts := atoms_spec (ws := wsX3_remembers) B.pre
  have hown : s.vm.findClass RX3 = some m.cls := findClass_of_methodNamed B.named
  have hlocks := B.notSynchronized
  have hS : va_S A s.heap s.heap [] := va_S.rf
  have hl := lv_entry ([.ref x, .int k]) (n := 3) (Nat.le_of_ble_eq_true rfl)
  rw [lg_entry_eq]
  generalize (lg_sl ([.ref x, .int k]) ++ List.replicate (3 - (lg_sl ([.ref x, .int k])).length) Slot.unset).toArray = ls at hl ⊢
  have hl : lv_has ls 3 [(0, .ref x), (1, .int k)] := hl
  have w0 := hts (.fieldLink RX3 17 "Tutorlight$Learner" "lastNumbers" "[I") (List.mem_of_getElem? (i := 1) rfl)
  have nX3 : ∀ w ∈ wsX30, w ∈ wsX3_remembers := fun _ h => List.mem_cons_of_mem _ (List.mem_append_left _ (List.mem_append_right _ h))
  obtain ⟨h0, h1⟩ := hp
  refine lv_iconst (v := 0) hx hb dX3_remembers_0 (by decide) ?_
  refine lv_istore_n (lv' := [(2, .int 0), (0, .ref x), (1, .int k)]) hx hb dX3_remembers_1 rfl hl (by decide) rfl (fun ls hl => ?_)
  refine lv_iload_n hx hb dX3_remembers_2 rfl (lv_at hl 0 rfl) ?_
  refine lv_aload_n hx hb dX3_remembers_3 rfl (lv_at hl 1 rfl) ?_
  refine mq_get (ci := 8) (v := .ref ln) (C := RX3) (T := TX3) (N := 5) hx hb hts nX3 hown hK hM h0 rfl 3 (by decide) w0 (fun _ h9 => h9) rfl dX3_remembers_4 ?_
  refine mq_alen (t0 := 0) (v := 3) hx hb hK hM rfl h1 rfl dX3_remembers_7 ?_
  refine lv_icmp_ge (tgt := 29) hx hb dX3_remembers_8 (by decide) (fun c_8 => absurd c_8 (by decide)) (fun c_8 => ?_)
  refine lv_aload_n hx hb dX3_remembers_11 rfl (lv_at hl 1 rfl) ?_
  refine mq_get (ci := 8) (v := .ref ln) (C := RX3) (T := TX3) (N := 5) hx hb hts nX3 hown hK hM h0 rfl 3 (by decide) w0 (fun _ h9 => h9) rfl dX3_remembers_12 ?_
  refine lv_iload_n hx hb dX3_remembers_15 rfl (lv_at hl 0 rfl) ?_
  refine mq_iald hx hb hK hM h1 (vp_in_nI (n := 0) (by decide) (by decide)) dX3_remembers_16 ?_
  rw [show (0 : Int32).toNatClampNeg = 0 from rfl]
  refine lv_iload_n hx hb dX3_remembers_17 rfl (lv_at hl 2 rfl) ?_
  refine lv_icmp_ne (tgt := 23) hx hb dX3_remembers_18 (by decide) (fun c_18 => ?_) (fun c_18 => ?_)
  · refine lv_iinc (v := 1) (lv' := [(2, .int 1), (0, .ref x), (1, .int k)]) hx hb dX3_remembers_23 hl (k := 0) rfl (by decide) (by decide) rfl (fun ls hl => ?_)
    refine lv_goto (tgt := 2) hx hb dX3_remembers_26 (by decide) ?_
    refine lv_iload_n hx hb dX3_remembers_2 rfl (lv_at hl 0 rfl) ?_
    refine lv_aload_n hx hb dX3_remembers_3 rfl (lv_at hl 1 rfl) ?_
    refine mq_get (ci := 8) (v := .ref ln) (C := RX3) (T := TX3) (N := 5) hx hb hts nX3 hown hK hM h0 rfl 3 (by decide) w0 (fun _ h9 => h9) rfl dX3_remembers_4 ?_
    refine mq_alen (t0 := 0) (v := 3) hx hb hK hM rfl h1 rfl dX3_remembers_7 ?_
    refine lv_icmp_ge (tgt := 29) hx hb dX3_remembers_8 (by decide) (fun c_8 => absurd c_8 (by decide)) (fun c_8 => ?_)
    refine lv_aload_n hx hb dX3_remembers_11 rfl (lv_at hl 1 rfl) ?_
    refine mq_get (ci := 8) (v := .ref ln) (C := RX3) (T := TX3) (N := 5) hx hb hts nX3 hown hK hM h0 rfl 3 (by decide) w0 (fun _ h9 => h9) rfl dX3_remembers_12 ?_
    refine lv_iload_n hx hb dX3_remembers_15 rfl (lv_at hl 0 rfl) ?_
    refine mq_iald hx hb hK hM h1 (vp_in_nI (n := 1) (by decide) (by decide)) dX3_remembers_16 ?_
    rw [show (1 : Int32).toNatClampNeg = 1 from rfl]
    refine lv_iload_n hx hb dX3_remembers_17 rfl (lv_at hl 2 rfl) ?_
    refine lv_icmp_ne (tgt := 23) hx hb dX3_remembers_18 (by decide) (fun c_18 => ?_) (fun c_18 => ?_)
    · refine lv_iinc (v := 2) (lv' := [(2, .int 2), (0, .ref x), (1, .int k)]) hx hb dX3_remembers_23 hl (k := 0) rfl (by decide) (by decide) rfl (fun ls hl => ?_)
      refine lv_goto (tgt := 2) hx hb dX3_remembers_26 (by decide) ?_
      refine lv_iload_n hx hb dX3_remembers_2 rfl (lv_at hl 0 rfl) ?_
      refine lv_aload_n hx hb dX3_remembers_3 rfl (lv_at hl 1 rfl) ?_
      refine mq_get (ci := 8) (v := .ref ln) (C := RX3) (T := TX3) (N := 5) hx hb hts nX3 hown hK hM h0 rfl 3 (by decide) w0 (fun _ h9 => h9) rfl dX3_remembers_4 ?_
      refine mq_alen (t0 := 0) (v := 3) hx hb hK hM rfl h1 rfl dX3_remembers_7 ?_
      refine lv_icmp_ge (tgt := 29) hx hb dX3_remembers_8 (by decide) (fun c_8 => absurd c_8 (by decide)) (fun c_8 => ?_)
      refine lv_aload_n hx hb dX3_remembers_11 rfl (lv_at hl 1 rfl) ?_
      refine mq_get (ci := 8) (v := .ref ln) (C := RX3) (T := TX3) (N := 5) hx hb hts nX3 hown hK hM h0 rfl 3 (by decide) w0 (fun _ h9 => h9) rfl dX3_remembers_12 ?_
      refine lv_iload_n hx hb dX3_remembers_15 rfl (lv_at hl 0 rfl) ?_
      refine mq_iald hx hb hK hM h1 (vp_in_nI (n := 2) (by decide) (by decide)) dX3_remembers_16 ?_
      rw [show (2 : Int32).toNatClampNeg = 2 from rfl]
      refine lv_iload_n hx hb dX3_remembers_17 rfl (lv_at hl 2 rfl) ?_
      refine lv_icmp_ne (tgt := 23) hx hb dX3_remembers_18 (by decide) (fun c_18 => ?_) (fun c_18 => ?_)
      · refine lv_iinc (v := 3) (lv' := [(2, .int 3), (0, .ref x), (1, .int k)]) hx hb dX3_remembers_23 hl (k := 0) rfl (by decide) (by decide) rfl (fun ls hl => ?_)
        refine lv_goto (tgt := 2) hx hb dX3_remembers_26 (by decide) ?_
        refine lv_iload_n hx hb dX3_remembers_2 rfl (lv_at hl 0 rfl) ?_
        refine lv_aload_n hx hb dX3_remembers_3 rfl (lv_at hl 1 rfl) ?_
        refine mq_get (ci := 8) (v := .ref ln) (C := RX3) (T := TX3) (N := 5) hx hb hts nX3 hown hK hM h0 rfl 3 (by decide) w0 (fun _ h9 => h9) rfl dX3_remembers_4 ?_
        refine mq_alen (t0 := 0) (v := 3) hx hb hK hM rfl h1 rfl dX3_remembers_7 ?_
        refine lv_icmp_ge (tgt := 29) hx hb dX3_remembers_8 (by decide) (fun c_8 => ?_) (fun c_8 => absurd c_8 (by decide))
        refine lv_iconst (v := 0) hx hb dX3_remembers_29 (by decide) ?_
        exact mq_zret (v := 0) hx hb hr (rfl) hlocks hM hS (⟨rfl, by simp [zb, *]⟩) dX3_remembers_30
      · refine lv_iconst (v := 1) hx hb dX3_remembers_21 (by decide) ?_
        exact mq_zret (v := 1) hx hb hr (rfl) hlocks hM hS (⟨rfl, by simp [zb, *]⟩) dX3_remembers_22
    · refine lv_iconst (v := 1) hx hb dX3_remembers_21 (by decide) ?_
      exact mq_zret (v := 1) hx hb hr (rfl) hlocks hM hS (⟨rfl, by simp [zb, *]⟩) dX3_remembers_22
  · refine lv_iconst (v := 1) hx hb dX3_remembers_21 (by decide) ?_
    exact mq_zret (v := 1) hx hb hr (rfl) hlocks hM hS (⟨rfl, by simp [zb, *]⟩) dX3_remembers_22

set_option maxHeartbeats 4000000 in
set_option maxRecDepth 100000 in
theorem c_X3_remember (l : Launch) (G : mq_G) (A : Nat → Prop) (f : mq_F) (x mA ln old : Nat) (ex ws : Option Nat) (fn : Nat → Int32) (k : Int32) : Met l yX3_remember wsX3_remember ({ frames := 0, cells := 0, slots := 0, locals := 0 } : Room) (mq_Pc G A f ((f x = some (cLe mA ex ws ln old) ∧ f ln = some (cIn G 3 fn)) ∧ old < 3) [.ref x, .int k]) (mq_Qv G A (fun g => g = mq_up (mq_up f ln (cIn G 3 (upd fn old k))) x (cLe mA ex ws ln ((old + 1) % 3)))) 0 0 A := by
  refine Met.ofW (cc := cX3_remember) (maxL := 2) (ret := none) (by decide) rfl ?_
  intro p e s m args below meth c s₁ B hml hv
  obtain ⟨rfl, ⟨hK, hZ, hM, hA⟩, hp⟩ := hv
  have hx := B.exec
  have hb := B.bytes
  have hr := B.returns
  have hts := atoms_spec (ws := wsX3_remember) B.pre
  have hown : s.vm.findClass RX3 = some m.cls := findClass_of_methodNamed B.named
  have hlocks := B.notSynchronized
  have hS : va_S A s.heap s.heap [] := va_S.rf
  have hl := lv_entry ([.ref x, .int k]) (n := 2) (Nat.le_of_ble_eq_true rfl)
  rw [lg_entry_eq]
  generalize (lg_sl ([.ref x, .int k]) ++ List.replicate (2 - (lg_sl ([.ref x, .int k])).length) Slot.unset).toArray = ls at hl ⊢
  have hl : lv_has ls 2 [(0, .ref x), (1, .int k)] := hl
  have w0 := hts (.fieldLink RX3 17 "Tutorlight$Learner" "lastNumbers" "[I") (List.mem_of_getElem? (i := 1) rfl)
  have w1 := hts (.fieldLink RX3 22 "Tutorlight$Learner" "oldestNumber" "I") (List.mem_of_getElem? (i := 2) rfl)
  have nX3 : ∀ w ∈ wsX30, w ∈ wsX3_remember := fun _ h => List.mem_cons_of_mem _ (List.mem_append_left _ (List.mem_append_right _ h))
  obtain ⟨⟨h0, h1⟩, ho⟩ := hp
  refine lv_aload_n hx hb dX3_remember_0 rfl (lv_at hl 0 rfl) ?_
  refine mq_get (ci := 8) (v := .ref ln) (C := RX3) (T := TX3) (N := 5) hx hb hts nX3 hown hK hM h0 rfl 3 (by decide) w0 (fun _ h9 => h9) rfl dX3_remember_1 ?_
  refine lv_aload_n hx hb dX3_remember_4 rfl (lv_at hl 0 rfl) ?_
  refine mq_get (ci := 8) (v := .int (nI old)) (C := RX3) (T := TX3) (N := 5) hx hb hts nX3 hown hK hM h0 rfl 4 (by decide) w1 (fun _ h9 => h9) rfl dX3_remember_5 ?_
  refine lv_iload_n hx hb dX3_remember_8 rfl (lv_at hl 1 rfl) ?_
  refine mq_iast hx hb hK hM hS h1 (vp_in_nI (by omega) (by omega)) dX3_remember_9 (fun f_1 H locs e_2 hM hS => ?_)
  rw [show (nI old : Int32).toNatClampNeg = old from nI_clamp (by omega)] at e_2
  have h_3 : f_1 x = some (.inr (8, [.ref mA, va_rf ex, va_rf ws, .ref ln, .int (nI old)])) := mq_n e_2 h0 (mq_neA h0 h1)
  have h_4 : f_1 ln = some (.inl (G.2 0, 3, .inl (upd fn old k))) := mq_s e_2
  refine lv_aload_n hx hb dX3_remember_10 rfl (lv_at hl 0 rfl) ?_
  refine lv_aload_n hx hb dX3_remember_11 rfl (lv_at hl 0 rfl) ?_
  refine mq_get (ci := 8) (v := .int (nI old)) (C := RX3) (T := TX3) (N := 5) hx hb hts nX3 hown hK hM h_3 rfl 4 (by decide) w1 (fun _ h9 => h9) rfl dX3_remember_12 ?_
  refine lv_iconst (v := 1) hx hb dX3_remember_15 (by decide) ?_
  refine lv_iadd hx hb dX3_remember_16 ?_
  rw [show (nI old) + 1 = nI (old + 1) from nI_add _ _]
  refine lv_iconst (v := 3) hx hb dX3_remember_17 (by decide) ?_
  refine lv_irem hx hb dX3_remember_18 (by decide) ?_
  rw [show (nI (old + 1)) - (nI (old + 1)) / 3 * 3 = nI ((old + 1) % 3) from pk_rem (a := old + 1) (d := 3) (by omega) (by omega) (by omega)]
  refine mq_put (ci := 8) (v := .int (nI ((old + 1) % 3))) (ty := .int) (C := RX3) (T := TX3) (N := 5) (fs' := [.ref mA, va_rf ex, va_rf ws, .ref ln, .int (nI ((old + 1) % 3))]) hx hb hts nX3 tyX3 tyX3_ok nmX3 hown hK hM hS h_3 rfl 4 (by decide) w1 (fun _ h9 => h9) rfl (by decide +kernel) rfl rfl (Nat.le_of_ble_eq_true rfl) dX3_remember_19 rfl (fun f_5 H locs e_6 hM hS => ?_)
  have h_7 : f_5 ln = some (.inl (G.2 0, 3, .inl (upd fn old k))) := mq_n e_6 h_4 (mq_neB h_4 h_3)
  have h_8 : f_5 x = some (.inr (8, [.ref mA, va_rf ex, va_rf ws, .ref ln, .int (nI ((old + 1) % 3))])) := mq_s e_6
  exact mq_vret hx hb hr hlocks hM hS (by rw [e_6, e_2]; (try simp only [mq_uu]); (try rfl)) dX3_remember_22

set_option maxHeartbeats 4000000 in
set_option maxRecDepth 100000 in
theorem c_X2_init (l : Launch) (G : mq_G) (A : Nat → Prop) (f : mq_F) (x : Nat) : Met l yX2_init wsX2_init ({ frames := 2, cells := 8, slots := 30, locals := 48 } : Room) (mq_Pc G A f (f x = some (.inr (7, [.null, .null, .null, .int 0]))) [.ref x]) (mq_Qv G A (fun g => ∃ rA bA er eb, ep_made G f g x rA bA er eb)) 8 30 A := by
  refine Met.ofW (cc := cX2_init) (maxL := 2) (ret := none) (by decide) rfl ?_
  intro p e s m args below meth c s₁ B hml hv
  obtain ⟨rfl, ⟨hK, hZ, hM, hA⟩, hp⟩ := hv
  have hx := B.exec
  have hb := B.bytes
  have hr := B.returns
  have hts := atoms_spec (ws := wsX2_init) B.pre
  have hown : s.vm.findClass RX2 = some m.cls := findClass_of_methodNamed B.named
  have hlocks := B.notSynchronized
  have hin : meth.name = "<init>" := (name_of_methodNamed B.named B.method).1
  have hS : va_S A s.heap s.heap [] := va_S.rf
  have hl := lv_entry ([.ref x]) (n := 2) (Nat.le_of_ble_eq_true rfl)
  rw [lg_entry_eq]
  generalize (lg_sl ([.ref x]) ++ List.replicate (2 - (lg_sl ([.ref x])).length) Slot.unset).toArray = ls at hl ⊢
  have hl : lv_has ls 2 [(0, .ref x)] := hl
  have w0 := hts (.methodLink RX2 3 objectInit) (List.mem_of_getElem? (i := 1) rfl)
  have w1 := hts (.instanceMethod objectInit) (List.mem_of_getElem? (i := 2) rfl)
  have w2 := hts (.code objectInit ⟨#[0xb1]⟩ 1 none) (List.mem_of_getElem? (i := 3) rfl)
  have w3 := hts (.classLink RX2 11 RX0) (List.mem_of_getElem? (i := 4) rfl)
  have w4 := hts (.fieldLink RX2 13 "Tutorlight$Explainer" "byRight" "[LTutorlight$Equation;") (List.mem_of_getElem? (i := 5) rfl)
  have w5 := hts (.fieldLink RX2 17 "Tutorlight$Explainer" "byBroken" "[LTutorlight$Equation;") (List.mem_of_getElem? (i := 6) rfl)
  have w6 := hts (.instantiable RX0 4) (List.mem_of_getElem? (i := 7) rfl)
  have w7 := hts (.initialized RX0) (List.mem_of_getElem? (i := 8) rfl)
  have w8 := hts (.methodLink RX2 20 yX0_init) (List.mem_of_getElem? (i := 9) rfl)
  have w9 := hts (.instanceMethod yX0_init) (List.mem_of_getElem? (i := 10) rfl)
  have nX2 : ∀ w ∈ wsX20, w ∈ wsX2_init := fun _ h => List.mem_cons_of_mem _ (List.mem_append_left _ (List.mem_append_right _ h))
  have nX0 : ∀ w ∈ wsX00, w ∈ wsX2_init := fun _ h => List.mem_cons_of_mem _ (List.mem_append_right _ h)
  refine lv_aload_n hx hb dX2_init_0 rfl (lv_at hl 0 rfl) ?_
  refine W.objInit hx hb hown w0 w1 w2 rfl (by rw [hml]; exact hl.1) rfl dX2_init_1 (Nat.le_of_ble_eq_true rfl) (Nat.le_of_ble_eq_true rfl) ?_
  refine W.eq (g2 := F0 m 4 ls []) rfl ?_
  refine lv_aload_n hx hb dX2_init_4 rfl (lv_at hl 0 rfl) ?_
  refine lv_iconst (v := 3) hx hb dX2_init_5 (by decide) ?_
  refine mq_newq (t0 := 3) (N' := 3) hx hb rfl hown w3 (mq_over hZ (by decide +kernel)) hK hM hS hA (by decide) (rfl) (Nat.le_of_ble_eq_true rfl) (Nat.le_of_ble_eq_true rfl) (Nat.le_of_ble_eq_true rfl) dX2_init_6 (fun q6 f_1 H hq6 e_2 hM hS => ?_)
  refine W.widen (k := 1) (n := 3) (Nat.le_of_ble_eq_true rfl) (Nat.le_of_ble_eq_true rfl) ?_
  have h_3 : f_1 x = some (.inr (7, [.null, .null, .null, .int 0])) := mq_n e_2 hp (mq_neN hp hq6)
  have h_4 : f_1 q6 = some (.inl (G.2 3, 3, .inr (.inr (.inr (.inr (fun _ => none)))))) := mq_s e_2
  refine mq_putF (ci := 7) (v := .ref q6) (ty := .array (.object "Tutorlight$Equation")) (C := RX2) (T := TX2) (N := 4) (fs' := [.ref q6, .null, .null, .int 0]) hx hb hts nX2 tyX2 tyX2_ok nmX2 hown hK hM hS h_3 rfl 0 (by decide) w4 (fun _ h9 => h9) rfl hin rfl (by decide +kernel) rfl rfl (Nat.le_of_ble_eq_true rfl) dX2_init_9 rfl (fun f_5 H locs e_6 hM hS => ?_)
  have h_7 : f_5 q6 = some (.inl (G.2 3, 3, .inr (.inr (.inr (.inr (fun _ => none)))))) := mq_n e_6 h_4 (Ne.symm (mq_neN hp hq6))
  have h_8 : f_5 x = some (.inr (7, [.ref q6, .null, .null, .int 0])) := mq_s e_6
  refine lv_aload_n hx hb dX2_init_12 rfl (lv_at hl 0 rfl) ?_
  refine lv_iconst (v := 3) hx hb dX2_init_13 (by decide) ?_
  refine mq_newq (t0 := 3) (N' := 3) hx hb rfl hown w3 (mq_over hZ (by decide +kernel)) hK hM hS hA (by decide) (rfl) (Nat.le_of_ble_eq_true rfl) (Nat.le_of_ble_eq_true rfl) (Nat.le_of_ble_eq_true rfl) dX2_init_14 (fun q14 f_9 H hq14 e_10 hM hS => ?_)
  refine W.widen (k := 2) (n := 6) (Nat.le_of_ble_eq_true rfl) (Nat.le_of_ble_eq_true rfl) ?_
  have h_11 : f_9 q6 = some (.inl (G.2 3, 3, .inr (.inr (.inr (.inr (fun _ => none)))))) := mq_n e_10 h_7 (mq_neN h_7 hq14)
  have h_12 : f_9 x = some (.inr (7, [.ref q6, .null, .null, .int 0])) := mq_n e_10 h_8 (mq_neN h_8 hq14)
  have h_13 : f_9 q14 = some (.inl (G.2 3, 3, .inr (.inr (.inr (.inr (fun _ => none)))))) := mq_s e_10
  refine mq_putF (ci := 7) (v := .ref q14) (ty := .array (.object "Tutorlight$Equation")) (C := RX2) (T := TX2) (N := 4) (fs' := [.ref q6, .ref q14, .null, .int 0]) hx hb hts nX2 tyX2 tyX2_ok nmX2 hown hK hM hS h_12 rfl 1 (by decide) w5 (fun _ h9 => h9) rfl hin rfl (by decide +kernel) rfl rfl (Nat.le_of_ble_eq_true rfl) dX2_init_17 rfl (fun f_14 H locs e_15 hM hS => ?_)
  have h_16 : f_14 q6 = some (.inl (G.2 3, 3, .inr (.inr (.inr (.inr (fun _ => none)))))) := mq_n e_15 h_11 (Ne.symm (mq_neN hp hq6))
  have h_17 : f_14 q14 = some (.inl (G.2 3, 3, .inr (.inr (.inr (.inr (fun _ => none)))))) := mq_n e_15 h_13 (Ne.symm (mq_neN h_8 hq14))
  have h_18 : f_14 x = some (.inr (7, [.ref q6, .ref q14, .null, .int 0])) := mq_s e_15
  have hf14 : f q14 = none := mq_fr e_2 (mq_fr e_6 hq14)
  have n614 : q6 ≠ q14 := mq_neN h_7 hq14
  refine lv_iconst (v := 0) hx hb dX2_init_20 (by decide) ?_
  refine lv_istore_n (lv' := [(1, .int 0), (0, .ref x)]) hx hb dX2_init_21 rfl hl (by decide) rfl (fun ls hl => ?_)
  have K22 : ∀ (n9 : Nat) (i : Nat) (er eb : Nat → Nat), (3 - i) < n9 → (i ≤ 3) → ∀ (f9 : mq_F), f9 x = some (.inr (7, [.ref q6, .ref q14, .null, .int 0])) → f9 q6 = some (.inl (G.2 3, 3, .inr (.inr (.inr (.inr (rf_of i er)))))) → f9 q14 = some (.inl (G.2 3, 3, .inr (.inr (.inr (.inr (rf_of i eb)))))) → (lr_I (fun _ => cEq (0, 0, 0, 0)) (cEq (0, 0, 0, 0)) f f9 x er eb i) → ∀ (H : Heap) (locs : List Loc), mq_W G.1 A f9 H → va_S A s.heap H locs → ∀ (ls : Array Slot), lv_has ls 2 [(0, .ref x), (1, .int (nI i))] → W p l e (headSpec wsX2_init ({ frames := 2, cells := 8, slots := 30, locals := 48 } : Room)).room s m ([.ref x] : List Value).toArray below meth c H locs ((2 + 2 * i)) ((6 + 8 * i)) (MQ below (mq_Qv G A (fun g => ∃ rA bA er eb, ep_made G f g x rA bA er eb)) ([.ref x] : List Value).toArray s 8 30 A) (F0 m 22 ls []) := by
    intro n9
    induction n9 with
    | zero => intro i er eb hn9; exact absurd hn9 (Nat.not_lt_zero _)
    | succ n9 ih22 =>
      intro i er eb hn9 hi f9 hx0 h6 h14 hI H locs hM hS ls hl
      refine lv_iload_n hx hb dX2_init_22 rfl (lv_at hl 1 rfl) ?_
      refine lv_iconst (v := 3) hx hb dX2_init_23 (by decide) ?_
      refine lv_icmp_ge (tgt := 67) hx hb dX2_init_24 (by decide) (fun c_24 => ?_) (fun c_24 => ?_)
      · replace c_24 : nI 3 ≤ nI i := c_24
        rw [nI_leI (by omega) (by omega)] at c_24
        obtain rfl : i = 3 := by omega
        refine W.widen (k := 8) (n := 30) (by omega) (by omega) ?_
        exact mq_vret hx hb hr hlocks hM hS (⟨q6, q14, er, eb, hI, hq6, hf14, n614, hx0, h6, h14⟩) dX2_init_67
      · replace c_24 : ¬ nI 3 ≤ nI i := c_24
        rw [nI_leI (by omega) (by omega)] at c_24
        refine lv_aload_n hx hb dX2_init_27 rfl (lv_at hl 0 rfl) ?_
        refine mq_get (ci := 7) (v := .ref q6) (C := RX2) (T := TX2) (N := 4) hx hb hts nX2 hown hK hM hx0 rfl 0 (by decide) w4 (fun _ h9 => h9) rfl dX2_init_28 ?_
        refine lv_iload_n hx hb dX2_init_31 rfl (lv_at hl 1 rfl) ?_
        refine mq_new (ci := 5) (fs := [.int 0, .int 0, .int 0, .int 0]) (C := RX0) (T := TX0) (N := 4) hx hb hts nX0 tyX0 tyX0_ok hown w3 w6 w7 hK hM hS hA rfl (fun j hj => by rcases (show j = 0 ∨ j = 1 ∨ j = 2 ∨ j = 3 by omega) with rfl | rfl | rfl | rfl <;> rfl) (by show ((2 + 2 * i)) + 1 ≤ 8; omega) (by show ((6 + 8 * i)) + 4 ≤ 30; omega) dX2_init_32 (fun q32 f_19 H hq32 e_20 hM hS => ?_)
        refine W.widen (k := ((2 + 2 * i) + 1)) (n := ((6 + 8 * i) + 4)) (by omega) (by omega) ?_
        have h_21 : f_19 x = some (.inr (7, [.ref q6, .ref q14, .null, .int 0])) := mq_n e_20 hx0 (mq_neN hx0 hq32)
        have h_22 : f_19 q6 = some (.inl (G.2 3, 3, .inr (.inr (.inr (.inr (rf_of i er)))))) := mq_n e_20 h6 (mq_neN h6 hq32)
        have h_23 : f_19 q14 = some (.inl (G.2 3, 3, .inr (.inr (.inr (.inr (rf_of i eb)))))) := mq_n e_20 h14 (mq_neN h14 hq32)
        have h_24 : f_19 q32 = some (.inr (5, [.int 0, .int 0, .int 0, .int 0])) := mq_s e_20
        refine lv_dup hx hb dX2_init_35 rfl ?_
        refine lv_iconst (v := 0) hx hb dX2_init_36 (by decide) ?_
        refine lv_iconst (v := 0) hx hb dX2_init_37 (by decide) ?_
        refine lv_iconst (v := 0) hx hb dX2_init_38 (by decide) ?_
        refine lv_iconst (v := 0) hx hb dX2_init_39 (by decide) ?_
        refine mq_callv (va_runI (As := [.int 0, .int 0, .int 0, .int 0]) (rest := [.ref q32, .int (nI i), .ref q6]) ⟨hx, hb, hml, hown, hts⟩ (c_X0_init l G A f_19 q32 0 0 0 0) (cwI 4 hts gX2_init_X0_init rfl rfl rfl w7 w8 w9 rfl (by decide +kernel) ⟨Nat.le_of_ble_eq_true rfl, Nat.le_of_ble_eq_true rfl⟩) (mq_preS hK hZ hS hA hM (⟨(0, 0, 0, 0), h_24⟩) _) rfl rfl hl.1 rfl (lv_room (Nat.le_of_ble_eq_true rfl)) dX2_init_40 ⟨by show ((2 + 2 * i) + 1) + 0 ≤ 8; omega, by show ((6 + 8 * i) + 4) + 0 ≤ 30; omega⟩) hS (fun g40 H locs p40 hM hS => ?_)
        refine W.widen (k := ((2 + 2 * i) + 1)) (n := ((6 + 8 * i) + 4)) (by omega) (by omega) ?_
        have h_25 : g40 x = some (.inr (7, [.ref q6, .ref q14, .null, .int 0])) := mq_n p40 h_21 (mq_neN hx0 hq32)
        have h_26 : g40 q6 = some (.inl (G.2 3, 3, .inr (.inr (.inr (.inr (rf_of i er)))))) := mq_n p40 h_22 (mq_neN h6 hq32)
        have h_27 : g40 q14 = some (.inl (G.2 3, 3, .inr (.inr (.inr (.inr (rf_of i eb)))))) := mq_n p40 h_23 (mq_neN h14 hq32)
        have h_28 : g40 q32 = some (.inr (5, [.int 0, .int 0, .int 0, .int 0])) := mq_s p40
        refine mq_aast (t0 := 3) (ci := 5) hx hb hK hM hS rfl h_26 h_28 rfl (vp_in_nI (by omega) (by omega)) dX2_init_43 (fun f_29 H locs e_30 hM hS => ?_)
        rw [show (nI i : Int32).toNatClampNeg = i from nI_clamp (by omega)] at e_30
        rw [show (va_up (rf_of i er) i (some q32)) = (rf_of (i + 1) (fun k => if k = i then q32 else er k)) from rf_S] at e_30
        have h_31 : f_29 x = some (.inr (7, [.ref q6, .ref q14, .null, .int 0])) := mq_n e_30 h_25 (mq_neN hp hq6)
        have h_32 : f_29 q14 = some (.inl (G.2 3, 3, .inr (.inr (.inr (.inr (rf_of i eb)))))) := mq_n e_30 h_27 (Ne.symm n614)
        have h_33 : f_29 q32 = some (.inr (5, [.int 0, .int 0, .int 0, .int 0])) := mq_n e_30 h_28 (Ne.symm (mq_neN h6 hq32))
        have h_34 : f_29 q6 = some (.inl (G.2 3, 3, .inr (.inr (.inr (.inr (rf_of (i + 1) (fun k => if k = i then q32 else er k))))))) := mq_s e_30
        refine lv_aload_n hx hb dX2_init_44 rfl (lv_at hl 0 rfl) ?_
        refine mq_get (ci := 7) (v := .ref q14) (C := RX2) (T := TX2) (N := 4) hx hb hts nX2 hown hK hM h_31 rfl 1 (by decide) w5 (fun _ h9 => h9) rfl dX2_init_45 ?_
        refine lv_iload_n hx hb dX2_init_48 rfl (lv_at hl 1 rfl) ?_
        refine mq_new (ci := 5) (fs := [.int 0, .int 0, .int 0, .int 0]) (C := RX0) (T := TX0) (N := 4) hx hb hts nX0 tyX0 tyX0_ok hown w3 w6 w7 hK hM hS hA rfl (fun j hj => by rcases (show j = 0 ∨ j = 1 ∨ j = 2 ∨ j = 3 by omega) with rfl | rfl | rfl | rfl <;> rfl) (by show ((2 + 2 * i) + 1) + 1 ≤ 8; omega) (by show ((6 + 8 * i) + 4) + 4 ≤ 30; omega) dX2_init_49 (fun q49 f_35 H hq49 e_36 hM hS => ?_)
        refine W.widen (k := ((2 + 2 * i) + 2)) (n := ((6 + 8 * i) + 8)) (by omega) (by omega) ?_
        have h_37 : f_35 x = some (.inr (7, [.ref q6, .ref q14, .null, .int 0])) := mq_n e_36 h_31 (mq_neN h_31 hq49)
        have h_38 : f_35 q14 = some (.inl (G.2 3, 3, .inr (.inr (.inr (.inr (rf_of i eb)))))) := mq_n e_36 h_32 (mq_neN h_32 hq49)
        have h_39 : f_35 q32 = some (.inr (5, [.int 0, .int 0, .int 0, .int 0])) := mq_n e_36 h_33 (mq_neN h_33 hq49)
        have h_40 : f_35 q6 = some (.inl (G.2 3, 3, .inr (.inr (.inr (.inr (rf_of (i + 1) (fun k => if k = i then q32 else er k))))))) := mq_n e_36 h_34 (mq_neN h_34 hq49)
        have h_41 : f_35 q49 = some (.inr (5, [.int 0, .int 0, .int 0, .int 0])) := mq_s e_36
        have hg49 : f9 q49 = none := mq_fr e_20 (mq_fr p40 (mq_fr e_30 (hq49)))
        refine lv_dup hx hb dX2_init_52 rfl ?_
        refine lv_iconst (v := 0) hx hb dX2_init_53 (by decide) ?_
        refine lv_iconst (v := 0) hx hb dX2_init_54 (by decide) ?_
        refine lv_iconst (v := 0) hx hb dX2_init_55 (by decide) ?_
        refine lv_iconst (v := 0) hx hb dX2_init_56 (by decide) ?_
        refine mq_callv (va_runI (As := [.int 0, .int 0, .int 0, .int 0]) (rest := [.ref q49, .int (nI i), .ref q14]) ⟨hx, hb, hml, hown, hts⟩ (c_X0_init l G A f_35 q49 0 0 0 0) (cwI 4 hts gX2_init_X0_init rfl rfl rfl w7 w8 w9 rfl (by decide +kernel) ⟨Nat.le_of_ble_eq_true rfl, Nat.le_of_ble_eq_true rfl⟩) (mq_preS hK hZ hS hA hM (⟨(0, 0, 0, 0), h_41⟩) _) rfl rfl hl.1 rfl (lv_room (Nat.le_of_ble_eq_true rfl)) dX2_init_57 ⟨by show ((2 + 2 * i) + 2) + 0 ≤ 8; omega, by show ((6 + 8 * i) + 8) + 0 ≤ 30; omega⟩) hS (fun g57 H locs p57 hM hS => ?_)
        refine W.widen (k := ((2 + 2 * i) + 2)) (n := ((6 + 8 * i) + 8)) (by omega) (by omega) ?_
        have h_42 : g57 x = some (.inr (7, [.ref q6, .ref q14, .null, .int 0])) := mq_n p57 h_37 (mq_neN h_31 hq49)
        have h_43 : g57 q14 = some (.inl (G.2 3, 3, .inr (.inr (.inr (.inr (rf_of i eb)))))) := mq_n p57 h_38 (mq_neN h_32 hq49)
        have h_44 : g57 q32 = some (.inr (5, [.int 0, .int 0, .int 0, .int 0])) := mq_n p57 h_39 (mq_neN h_33 hq49)
        have h_45 : g57 q6 = some (.inl (G.2 3, 3, .inr (.inr (.inr (.inr (rf_of (i + 1) (fun k => if k = i then q32 else er k))))))) := mq_n p57 h_40 (mq_neN h_34 hq49)
        have h_46 : g57 q49 = some (.inr (5, [.int 0, .int 0, .int 0, .int 0])) := mq_s p57
        refine mq_aast (t0 := 3) (ci := 5) hx hb hK hM hS rfl h_43 h_46 rfl (vp_in_nI (by omega) (by omega)) dX2_init_60 (fun f_47 H locs e_48 hM hS => ?_)
        rw [show (nI i : Int32).toNatClampNeg = i from nI_clamp (by omega)] at e_48
        rw [show (va_up (rf_of i eb) i (some q49)) = (rf_of (i + 1) (fun k => if k = i then q49 else eb k)) from rf_S] at e_48
        have h_49 : f_47 x = some (.inr (7, [.ref q6, .ref q14, .null, .int 0])) := mq_n e_48 h_42 (mq_neN h_8 hq14)
        have h_50 : f_47 q32 = some (.inr (5, [.int 0, .int 0, .int 0, .int 0])) := mq_n e_48 h_44 (Ne.symm (mq_neN h14 hq32))
        have h_51 : f_47 q6 = some (.inl (G.2 3, 3, .inr (.inr (.inr (.inr (rf_of (i + 1) (fun k => if k = i then q32 else er k))))))) := mq_n e_48 h_45 (n614)
        have h_52 : f_47 q49 = some (.inr (5, [.int 0, .int 0, .int 0, .int 0])) := mq_n e_48 h_46 (Ne.symm (mq_neN h_32 hq49))
        have h_53 : f_47 q14 = some (.inl (G.2 3, 3, .inr (.inr (.inr (.inr (rf_of (i + 1) (fun k => if k = i then q49 else eb k))))))) := mq_s e_48
        refine lv_iinc (v := nI (i + 1)) (lv' := [(1, .int (nI (i + 1))), (0, .ref x)]) hx hb dX2_init_61 hl (k := 1) rfl (nI_add _ _) (by decide) rfl (fun ls hl => ?_)
        refine lv_goto (tgt := 22) hx hb dX2_init_64 (by decide) ?_
        have hk1 : ∀ y e, y ≠ q6 → y ≠ q14 → f9 y = some e → f_47 y = some e := fun y9 e9 n1 n2 he => by have n3 := mq_neN he hq32; have n4 := mq_neN he hg49; have kp0 := mq_n e_20 he (mq_neN he hq32); have kp1 := mq_n p40 kp0 (n3); have kp2 := mq_n e_30 kp1 (n1); have kp3 := mq_n e_36 kp2 (mq_neN kp2 hq49); have kp4 := mq_n p57 kp3 (n4); have kp5 := mq_n e_48 kp4 (n2); exact kp5
        exact W.widen (by omega) (by omega) (ih22 (i + 1) (fun k => if k = i then q32 else er k) (fun k => if k = i then q49 else eb k) (by omega) (by omega) _ h_49 h_51 h_53 (lr_step hI hx0 hq32 hg49 (mq_neN h_33 hq49) hk1 hq6 hf14 (fun k hk => ⟨mq_neA (hI.1 k hk).1 h6, mq_neA (hI.1 k hk).2.1 h6, mq_neA (hI.1 k hk).1 h14, mq_neA (hI.1 k hk).2.1 h14⟩) h_50 h_52) _ _ hM hS _ (lv_sub hl [1, 0] rfl))
  have hk0 : ∀ y e, y ≠ x → f y = some e → f_14 y = some e := fun y9 e9 hy he => by have kp0 := mq_n e_2 he (mq_neN he hq6); have kp1 := mq_n e_6 kp0 (hy); have kp2 := mq_n e_10 kp1 (mq_neN kp1 hq14); have kp3 := mq_n e_15 kp2 (hy); exact kp3
  exact W.widen (by omega) (by omega) (K22 _ 0 (fun _ => 0) (fun _ => 0) (Nat.lt_succ_self _) (Nat.zero_le _) _ h_18 h_16 h_17 (lr_0 hk0) _ _ hM hS _ (lv_sub hl [1, 0] rfl))

set_option maxHeartbeats 4000000 in
set_option maxRecDepth 100000 in
theorem c_X2_isBetter (l : Launch) (G : mq_G) (A : Nat → Prop) (f : mq_F) (x rA bA b mk : Nat) (so : Option Nat) : Met l yX2_isBetter wsX2_isBetter ({ frames := 1, cells := 0, slots := 0, locals := 20 } : Room) (mq_Pc G A f (f x = some (cXp rA bA so b) ∧ b < 33 ∧ mk < 32) [.ref x, .int (nI mk)]) (mq_Qi G A (fun r g => f = g ∧ r = zb (bet b mk))) 0 0 A := by
  refine Met.ofW (cc := cX2_isBetter) (maxL := 3) (ret := (some .boolean)) (by decide) rfl ?_
  intro p e s m args below meth c s₁ B hml hv
  obtain ⟨rfl, ⟨hK, hZ, hM, hA⟩, hp⟩ := hv
  have hx := B.exec
  have hb := B.bytes
  have hr := B.returns
  have hts := atoms_spec (ws := wsX2_isBetter) B.pre
  have hown : s.vm.findClass RX2 = some m.cls := findClass_of_methodNamed B.named
  have hlocks := B.notSynchronized
  have hS : va_S A s.heap s.heap [] := va_S.rf
  have hl := lv_entry ([.ref x, .int (nI mk)]) (n := 3) (Nat.le_of_ble_eq_true rfl)
  rw [lg_entry_eq]
  generalize (lg_sl ([.ref x, .int (nI mk)]) ++ List.replicate (3 - (lg_sl ([.ref x, .int (nI mk)])).length) Slot.unset).toArray = ls at hl ⊢
  have hl : lv_has ls 3 [(0, .ref x), (1, .int (nI mk))] := hl
  have w0 := hts (.fieldLink RX2 32 "Tutorlight$Explainer" "best" "I") (List.mem_of_getElem? (i := 1) rfl)
  have nX2 : ∀ w ∈ wsX20, w ∈ wsX2_isBetter := fun _ h => List.mem_cons_of_mem _ (List.mem_append_right _ h)
  obtain ⟨h0, hb1, hm⟩ := hp
  have p1 := pcn_le mk
  have p2 := pcn_le (b - 1)
  refine lv_aload_n hx hb dX2_isBetter_0 rfl (lv_at hl 0 rfl) ?_
  refine mq_get (ci := 7) (v := .int (du b)) (C := RX2) (T := TX2) (N := 4) hx hb hts nX2 hown hK hM h0 rfl 3 (by decide) w0 (fun _ h9 => h9) rfl dX2_isBetter_1 ?_
  refine lv_iconst (v := (-1)) hx hb dX2_isBetter_4 (by decide) ?_
  refine lv_icmp_ne (tgt := 10) hx hb dX2_isBetter_5 (by decide) (fun c_5 => ?_) (fun c_5 => ?_)
  · replace c_5 : ¬ du b = (-1) := c_5
    rw [du_m1 (by omega)] at c_5
    refine lv_aload_n hx hb dX2_isBetter_10 rfl (lv_at hl 0 rfl) ?_
    refine mq_get (ci := 7) (v := .int (du b)) (C := RX2) (T := TX2) (N := 4) hx hb hts nX2 hown hK hM h0 rfl 3 (by decide) w0 (fun _ h9 => h9) rfl dX2_isBetter_11 ?_
    refine mq_calli (va_runS (As := [.int (du b)]) (rest := []) ⟨hx, hb, hml, hown, hts⟩ (c_J6_bitCount_0f7a4 l G A f (du b)) (va_cwS 1 hts gX2_isBetter_J6_bitCount_0f7a4 rfl rfl rfl (by decide +kernel) ⟨Nat.le_of_ble_eq_true rfl, Nat.le_of_ble_eq_true rfl⟩) (mq_preS hK hZ hS hA hM (trivial) _) rfl rfl hl.1 rfl (lv_room (Nat.le_of_ble_eq_true rfl)) dX2_isBetter_14 ⟨Nat.le_of_ble_eq_true rfl, Nat.le_of_ble_eq_true rfl⟩) hS (fun r14 g14 H locs p14 hM hS => ?_)
    refine W.widen (k := 0) (n := 0) (Nat.le_of_ble_eq_true rfl) (Nat.le_of_ble_eq_true rfl) ?_
    obtain ⟨rfl, rfl⟩ := p14
    rw [du_nI c_5, j_bc_ok _ (by omega)]
    refine lv_iload_n hx hb dX2_isBetter_17 rfl (lv_at hl 1 rfl) ?_
    refine mq_calli (va_runS (As := [.int (nI mk)]) (rest := [.int (nI (pcn (b - 1)))]) ⟨hx, hb, hml, hown, hts⟩ (c_J6_bitCount_0f7a4 l G A f (nI mk)) (va_cwS 1 hts gX2_isBetter_J6_bitCount_0f7a4 rfl rfl rfl (by decide +kernel) ⟨Nat.le_of_ble_eq_true rfl, Nat.le_of_ble_eq_true rfl⟩) (mq_preS hK hZ hS hA hM (trivial) _) rfl rfl hl.1 rfl (lv_room (Nat.le_of_ble_eq_true rfl)) dX2_isBetter_18 ⟨Nat.le_of_ble_eq_true rfl, Nat.le_of_ble_eq_true rfl⟩) hS (fun r18 g18 H locs p18 hM hS => ?_)
    refine W.widen (k := 0) (n := 0) (Nat.le_of_ble_eq_true rfl) (Nat.le_of_ble_eq_true rfl) ?_
    obtain ⟨rfl, rfl⟩ := p18
    rw [j_bc_ok _ hm]
    refine lv_isub hx hb dX2_isBetter_21 ?_
    refine lv_istore_n (lv' := [(2, .int ((nI (pcn (b - 1))) - (nI (pcn mk)))), (0, .ref x), (1, .int (nI mk))]) hx hb dX2_isBetter_22 rfl hl (by decide) rfl (fun ls hl => ?_)
    refine lv_iload_n hx hb dX2_isBetter_23 rfl (lv_at hl 0 rfl) ?_
    refine lv_if_gt (tgt := 39) hx hb dX2_isBetter_24 (by decide) (fun c_24 => ?_) (fun c_24 => ?_)
    · rw [ni_subpos (by omega) (by omega)] at c_24
      refine lv_iconst (v := 1) hx hb dX2_isBetter_39 (by decide) ?_
      refine lv_goto (tgt := 44) hx hb dX2_isBetter_40 (by decide) ?_
      exact mq_zret (v := 1) hx hb hr (rfl) hlocks hM hS (⟨rfl, by rw [show bet b mk = true from by unfold bet cst; simp only [decide_eq_true_eq, decide_eq_false_iff_not]; omega]; rfl⟩) dX2_isBetter_44
    · rw [ni_subpos (by omega) (by omega)] at c_24
      refine lv_iload_n hx hb dX2_isBetter_27 rfl (lv_at hl 0 rfl) ?_
      refine lv_if_ne (tgt := 43) hx hb dX2_isBetter_28 (by decide) (fun c_28 => ?_) (fun c_28 => ?_)
      · rw [ni_sub0 (by omega) (by omega)] at c_28
        refine lv_iconst (v := 0) hx hb dX2_isBetter_43 (by decide) ?_
        exact mq_zret (v := 0) hx hb hr (rfl) hlocks hM hS (⟨rfl, by rw [show bet b mk = false from by unfold bet cst; simp only [decide_eq_true_eq, decide_eq_false_iff_not]; omega]; rfl⟩) dX2_isBetter_44
      · rw [ni_sub0 (by omega) (by omega)] at c_28
        refine lv_iload_n hx hb dX2_isBetter_31 rfl (lv_at hl 2 rfl) ?_
        refine lv_aload_n hx hb dX2_isBetter_32 rfl (lv_at hl 1 rfl) ?_
        refine mq_get (ci := 7) (v := .int (du b)) (C := RX2) (T := TX2) (N := 4) hx hb hts nX2 hown hK hM h0 rfl 3 (by decide) w0 (fun _ h9 => h9) rfl dX2_isBetter_33 ?_
        refine lv_icmp_ge (tgt := 43) hx hb dX2_isBetter_36 (by decide) (fun c_36 => ?_) (fun c_36 => ?_)
        · replace c_36 : du b ≤ nI mk := c_36
          rw [du_leN (by omega) (by omega)] at c_36
          refine lv_iconst (v := 0) hx hb dX2_isBetter_43 (by decide) ?_
          exact mq_zret (v := 0) hx hb hr (rfl) hlocks hM hS (⟨rfl, by rw [show bet b mk = false from by unfold bet cst; simp only [decide_eq_true_eq, decide_eq_false_iff_not]; omega]; rfl⟩) dX2_isBetter_44
        · replace c_36 : ¬ du b ≤ nI mk := c_36
          rw [du_leN (by omega) (by omega)] at c_36
          refine lv_iconst (v := 1) hx hb dX2_isBetter_39 (by decide) ?_
          refine lv_goto (tgt := 44) hx hb dX2_isBetter_40 (by decide) ?_
          exact mq_zret (v := 1) hx hb hr (rfl) hlocks hM hS (⟨rfl, by rw [show bet b mk = true from by unfold bet cst; simp only [decide_eq_true_eq, decide_eq_false_iff_not]; omega]; rfl⟩) dX2_isBetter_44
  · replace c_5 : du b = (-1) := c_5
    rw [du_m1 (by omega)] at c_5
    refine lv_iconst (v := 1) hx hb dX2_isBetter_8 (by decide) ?_
    exact mq_zret (v := 1) hx hb hr (rfl) hlocks hM hS (⟨rfl, by rw [show bet b mk = true from by unfold bet cst; simp only [decide_eq_true_eq, decide_eq_false_iff_not]; omega]; rfl⟩) dX2_isBetter_9
