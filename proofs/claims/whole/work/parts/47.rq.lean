/-! THE REFERENCE: the least set of broken rules, over all rows; it is what the search finds -/
theorem cst_or : ∀ m, m < 32 → ∀ i, i < 5 → cst m ≤ cst (m ||| 2 ^ i) := by decide +kernel
theorem cst_mod : ∀ m, m < 32 → cst m % 100 = m := by decide +kernel
theorem cst_lt : ∀ m, m < 32 → cst m < 600 := by decide +kernel
theorem dnV_7 {q : eqT} : dnV 7 q = none := rfl
theorem dn_b {k : Nat} {q e : eqT} (hk : 5 ≤ k) (hk2 : k < 10) (h : dnV k q = some e) : e = eq_rule (k - 5) true q ∧ dnV (k - 5) q = some (eq_rule (k - 5) false q) := by
  have hm : (k = 4 ∨ k = 9) → eq_may q = true := fun h4 => by
    cases hq : eq_may q with
    | true => rfl
    | false => rw [dnV_no h4 hq] at h; cases h
  have h7 : k ≠ 7 := fun w => by rw [w, dnV_7] at h; cases h
  unfold dnV at h
  rw [if_neg h7, if_neg (fun w => by rw [hm w.1] at w; exact absurd w.2 (by decide)), show k % 5 = k - 5 by omega, decide_eq_true hk] at h
  refine ⟨(Option.some.inj h).symm, ?_⟩
  unfold dnV
  rw [if_neg (by omega), if_neg (fun w => by rw [hm (by omega)] at w; exact absurd w.2 (by decide)), show (k - 5) % 5 = k - 5 by omega, decide_eq_false (by omega)]
theorem dn_r {i : Nat} {q : eqT} (hi : i < 5) (h : eq_rule i false q ≠ q) : dnV i q = some (eq_rule i false q) := by
  unfold dnV
  rw [if_neg (by omega), if_neg, Nat.mod_eq_of_lt hi, decide_eq_false (by omega)]
  rintro ⟨h4, hm⟩
  obtain rfl : i = 4 := by omega
  exact h (dn_n4 (dnV_no (Or.inl rfl) hm))
theorem dn_w {i : Nat} {q : eqT} (hi : i < 5) (h : eq_rule i true q ≠ eq_rule i false q) : dnV (i + 5) q = some (eq_rule i true q) := by
  unfold dnV
  rw [if_neg (fun w => h (by obtain rfl : i = 2 := by omega
                             rfl)), if_neg, show (i + 5) % 5 = i by omega, decide_eq_true (by omega)]
  rintro ⟨h4, hm⟩
  obtain rfl : i = 4 := by omega
  refine h ?_
  show (if eq_may q then _ else q) = (if eq_may q then _ else q)
  rw [hm]; rfl
/-- the set behind a rule -/
def mkN (k : Nat) (q : eqT) (m : Nat) : Nat := if 5 ≤ k ∧ eq_rule (k - 5) true q ≠ eq_rule (k - 5) false q then m ||| 2 ^ (k - 5) else m
def rch (t : eqT) : Nat → eqT → Nat → Nat → Prop
  | 0, e, m, m' => e = t ∧ m' = m
  | d + 1, e, m, m' => (e = t ∧ m' = m) ∨ ∃ k e1, k < 10 ∧ dnV k e = some e1 ∧ rch t d e1 (mkN k e m) m'
def rcc (t : eqT) : Nat → eqT → Nat → Nat → Prop
  | 0, e, m, m' => e = t ∧ m' = m
  | d + 1, e, m, m' => (e = t ∧ m' = m) ∨ ∃ i, i < 5 ∧ ((eq_rule i false e ≠ e ∧ rcc t d (eq_rule i false e) m m') ∨ (eq_rule i true e ≠ eq_rule i false e ∧ rcc t d (eq_rule i true e) (m ||| 2 ^ i) m'))
theorem rcc_mono (t : eqT) : ∀ d e m m', rcc t d e m m' → rcc t (d + 1) e m m'
  | 0, e, m, m', h => Or.inl h
  | d + 1, e, m, m', h => by
    rcases h with h | ⟨i, hi, h | h⟩
    · exact Or.inl h
    · exact Or.inr ⟨i, hi, Or.inl ⟨h.1, rcc_mono t d _ _ _ h.2⟩⟩
    · exact Or.inr ⟨i, hi, Or.inr ⟨h.1, rcc_mono t d _ _ _ h.2⟩⟩
theorem rch_rcc (t : eqT) : ∀ d e m m', rch t d e m m' ↔ rcc t d e m m'
  | 0, e, m, m' => Iff.rfl
  | d + 1, e, m, m' => by
    constructor
    · rintro (h | ⟨k, e1, hk, hd, h⟩)
      · exact Or.inl h
      · have h := (rch_rcc t d _ _ _).mp h
        have right : ∀ i, i < 5 → rcc t d (eq_rule i false e) m m' → rcc t (d + 1) e m m' := fun i hi q => by
          by_cases he : eq_rule i false e = e
          · rw [he] at q; exact rcc_mono t d _ _ _ q
          · exact Or.inr ⟨i, hi, Or.inl ⟨he, q⟩⟩
        by_cases hk5 : k < 5
        · unfold mkN at h
          rw [if_neg (fun w => by omega), dn_s hk5 hd] at h
          exact right k hk5 h
        · obtain ⟨h1, h2⟩ := dn_b (by omega) hk hd
          by_cases hw : eq_rule (k - 5) true e = eq_rule (k - 5) false e
          · unfold mkN at h
            rw [if_neg (fun w => w.2 hw), h1, hw] at h
            exact right (k - 5) (by omega) h
          · unfold mkN at h
            rw [if_pos ⟨by omega, hw⟩, h1] at h
            exact Or.inr ⟨k - 5, by omega, Or.inr ⟨hw, h⟩⟩
    · rintro (h | ⟨i, hi, h | h⟩)
      · exact Or.inl h
      · refine Or.inr ⟨i, _, by omega, dn_r hi h.1, (rch_rcc t d _ _ _).mpr ?_⟩
        unfold mkN
        rw [if_neg (fun w => by omega)]; exact h.2
      · refine Or.inr ⟨i + 5, _, by omega, dn_w hi h.1, (rch_rcc t d _ _ _).mpr ?_⟩
        unfold mkN
        rw [Nat.add_sub_cancel, if_pos ⟨by omega, h.1⟩]; exact h.2
theorem rcc_ge (t : eqT) : ∀ d e m m', m < 32 → rcc t d e m m' → m' < 32 ∧ cst m ≤ cst m'
  | 0, e, m, m', hm, h => by rw [h.2]; exact ⟨hm, Nat.le_refl _⟩
  | d + 1, e, m, m', hm, h => by
    rcases h with h | ⟨i, hi, h | h⟩
    · rw [h.2]; exact ⟨hm, Nat.le_refl _⟩
    · exact rcc_ge t d _ _ _ hm h.2
    · have h1 := rcc_ge t d _ _ _ (or_lt32 hm hi) h.2
      have h2 := cst_or m hm i hi
      exact ⟨h1.1, by omega⟩
/-- the better of what was and what is there (the search's form) -/
def BO (b b' : Nat) (P : Nat → Prop) : Prop := (b' = b ∨ ∃ m', P m' ∧ b' = m' + 1) ∧ (∀ m', P m' → b' ≠ 0 ∧ cst (b' - 1) ≤ cst m') ∧ (b ≠ 0 → b' ≠ 0 ∧ cst (b' - 1) ≤ cst (b - 1))
theorem BO.no {b : Nat} {P : Nat → Prop} (h : ∀ m', ¬ P m') : BO b b P := ⟨Or.inl rfl, fun m' q => absurd q (h m'), fun q => ⟨q, Nat.le_refl _⟩⟩
theorem BO.tr {b b1 b2 : Nat} {P Q R : Nat → Prop} (h1 : BO b b1 P) (h2 : BO b1 b2 Q) (hr : ∀ m', R m' ↔ P m' ∨ Q m') : BO b b2 R := by
  refine ⟨?_, fun m' q => ?_, fun q => ?_⟩
  · rcases h2.1 with e | ⟨m', q, e⟩
    · rcases h1.1 with e1 | ⟨m', q, e1⟩
      · exact Or.inl (e.trans e1)
      · exact Or.inr ⟨m', (hr m').mpr (Or.inl q), e.trans e1⟩
    · exact Or.inr ⟨m', (hr m').mpr (Or.inr q), e⟩
  · rcases (hr m').mp q with q | q
    · have a := h1.2.1 m' q
      have c := h2.2.2 a.1
      exact ⟨c.1, by omega⟩
    · exact h2.2.1 m' q
  · have a := h1.2.2 q
    have c := h2.2.2 a.1
    exact ⟨c.1, by omega⟩
theorem sk_BO (t : eqT) : ∀ d e m b, m < 32 → b < 33 → BO b (sk t d e m b) (rcc t d e m) := by
  have base : ∀ d e m b, m < 32 → bet b m = true → e = t → BO b (m + 1) (rcc t d e m) := fun d e m b hm hb he => by
    unfold bet at hb
    rw [decide_eq_true_eq] at hb
    refine ⟨Or.inr ⟨m, ?_, rfl⟩, fun m' q => ⟨by omega, by rw [Nat.add_sub_cancel]; exact (rcc_ge t d _ _ _ hm q).2⟩, fun q => ⟨by omega, by rw [Nat.add_sub_cancel]; omega⟩⟩
    cases d with
    | zero => exact ⟨he, rfl⟩
    | succ d => exact Or.inl ⟨he, rfl⟩
  have worse : ∀ d e m b, m < 32 → bet b m = false → BO b b (rcc t d e m) := fun d e m b hm hb => by
    unfold bet at hb
    rw [decide_eq_false_iff_not] at hb
    exact ⟨Or.inl rfl, fun m' q => ⟨by omega, by have := (rcc_ge t d _ _ _ hm q).2; omega⟩, fun q => ⟨q, Nat.le_refl _⟩⟩
  intro d
  induction d with
  | zero =>
    intro e m b hm hb
    unfold sk
    cases hbt : bet b m with
    | false => rw [if_neg (by decide)]; exact worse 0 e m b hm hbt
    | true =>
      rw [if_pos rfl]
      by_cases he : e = t
      · rw [if_pos he]; exact base 0 e m b hm hbt he
      · rw [if_neg he]; exact BO.no fun m' q => he q.1
  | succ d ih =>
    intro e m b hm hb
    unfold sk
    cases hbt : bet b m with
    | false => rw [if_neg (by decide)]; exact worse (d + 1) e m b hm hbt
    | true =>
      rw [if_pos rfl]
      by_cases he : e = t
      · rw [if_pos he]; exact base (d + 1) e m b hm hbt he
      · rw [if_neg he]
        have loop : ∀ i, i ≤ 5 → BO b (skL (sk t d) e m b i) (fun m' => ∃ i', i' < i ∧ ((eq_rule i' false e ≠ e ∧ rcc t d (eq_rule i' false e) m m') ∨ (eq_rule i' true e ≠ eq_rule i' false e ∧ rcc t d (eq_rule i' true e) (m ||| 2 ^ i') m'))) := by
          intro i
          induction i with
          | zero => intro _; exact BO.no fun m' ⟨i', q, _⟩ => absurd q (Nat.not_lt_zero i')
          | succ i ihi =>
            intro hi
            have h1 := ihi (by omega)
            have hb1 := skL_lt (e := e) (sk_lt t d) hm hb i (by omega)
            show BO b (skS (sk t d) e m (skL (sk t d) e m b i) i) _
            generalize skL (sk t d) e m b i = b1 at h1 hb1
            unfold skS
            have h2 : BO b1 (if eq_rule i false e ≠ e then sk t d (eq_rule i false e) m b1 else b1) (fun m' => eq_rule i false e ≠ e ∧ rcc t d (eq_rule i false e) m m') := by
              by_cases hr : eq_rule i false e ≠ e
              · rw [if_pos hr]
                have h3 := ih (eq_rule i false e) m b1 hm hb1
                exact BO.tr (BO.no (P := fun _ => False) fun _ q => q) h3 fun m' => ⟨fun q => Or.inr q.2, fun q => q.elim False.elim fun q => ⟨hr, q⟩⟩
              · rw [if_neg hr]
                exact BO.no fun m' q => hr q.1
            have hb2 : (if eq_rule i false e ≠ e then sk t d (eq_rule i false e) m b1 else b1) < 33 := by
              split
              · exact sk_lt t d _ _ _ hm hb1
              · exact hb1
            generalize (if eq_rule i false e ≠ e then sk t d (eq_rule i false e) m b1 else b1) = b2 at h2 hb2
            have h4 : BO b2 (if eq_rule i true e ≠ eq_rule i false e then sk t d (eq_rule i true e) (m ||| 2 ^ i) b2 else b2) (fun m' => eq_rule i true e ≠ eq_rule i false e ∧ rcc t d (eq_rule i true e) (m ||| 2 ^ i) m') := by
              by_cases hr : eq_rule i true e ≠ eq_rule i false e
              · rw [if_pos hr]
                have h3 := ih (eq_rule i true e) (m ||| 2 ^ i) b2 (or_lt32 hm (by omega)) hb2
                exact BO.tr (BO.no (P := fun _ => False) fun _ q => q) h3 fun m' => ⟨fun q => Or.inr q.2, fun q => q.elim False.elim fun q => ⟨hr, q⟩⟩
              · rw [if_neg hr]
                exact BO.no fun m' q => hr q.1
            refine BO.tr (BO.tr h1 h2 fun m' => Iff.rfl) h4 fun m' => ⟨?_, ?_⟩
            · rintro ⟨i', h5, h6⟩
              by_cases hii : i' = i
              · subst hii
                exact h6.elim (fun q => Or.inl (Or.inr q)) Or.inr
              · exact Or.inl (Or.inl ⟨i', by omega, h6⟩)
            · rintro ((⟨i', h5, h6⟩ | q) | q)
              · exact ⟨i', by omega, h6⟩
              · exact ⟨i, Nat.lt_succ_self i, Or.inl q⟩
              · exact ⟨i, Nat.lt_succ_self i, Or.inr q⟩
        exact BO.tr (BO.no (P := fun _ => False) fun _ q => q) (loop 5 (Nat.le_refl 5)) fun m' => ⟨fun q => q.elim (fun q => absurd q.1 he) Or.inr, fun q => q.elim False.elim fun q => Or.inr q⟩
/-- the reference's costs: 0 none, else one more than the cost -/
def xpM (b v : Nat) : Nat := if v ≠ 0 ∧ (b = 0 ∨ v < b) then v else b
def xpS (F : eqT → Nat → Nat) (e : eqT) (m b k : Nat) : Nat := match dnV k e with
  | none => b
  | some e1 => xpM b (F e1 (mkN k e m))
def xpL (F : eqT → Nat → Nat) (e : eqT) (m b : Nat) : Nat → Nat
  | 0 => b
  | k + 1 => xpS F e m (xpL F e m b k) k
def xpB (t e : eqT) (m : Nat) : Nat := if e = t then 100 * pcn m + m + 1 else 0
def xp (t : eqT) : Nat → eqT → Nat → Nat
  | 0, e, m => xpB t e m
  | d + 1, e, m => xpL (xp t d) e m (xpB t e m) 10
def xpA (t : eqT) : Nat → eqT → Nat → Nat → Nat
  | 0, e, m, _ => xpB t e m
  | d + 1, e, m, i => xpL (xp t d) e m (xpB t e m) i
theorem xpA_0 {t e : eqT} {m : Nat} : ∀ {d}, xpA t d e m 0 = xpB t e m
  | 0 => rfl
  | _ + 1 => rfl
theorem xpA_10 {t e : eqT} {m : Nat} : ∀ {d}, xpA t d e m 10 = xp t d e m
  | 0 => rfl
  | _ + 1 => rfl
theorem xpA_n {t e : eqT} {d m i : Nat} (h : dnV i e = none) : xpA t (d + 1) e m (i + 1) = xpA t (d + 1) e m i := by
  show xpS (xp t d) e m (xpL (xp t d) e m (xpB t e m) i) i = _
  unfold xpS
  rw [h]; rfl
theorem xpA_s {t e e1 : eqT} {d m i : Nat} (h : dnV i e = some e1) : xpA t (d + 1) e m (i + 1) = xpM (xpA t (d + 1) e m i) (xp t d e1 (mkN i e m)) := by
  show xpS (xp t d) e m (xpL (xp t d) e m (xpB t e m) i) i = _
  unfold xpS
  rw [h]; rfl
def BC (b b' : Nat) (P : Nat → Prop) : Prop := (b' = b ∨ ∃ m', P m' ∧ b' = cst m' + 1) ∧ (∀ m', P m' → b' ≠ 0 ∧ b' ≤ cst m' + 1) ∧ (b ≠ 0 → b' ≠ 0 ∧ b' ≤ b)
theorem BC.no {b : Nat} {P : Nat → Prop} (h : ∀ m', ¬ P m') : BC b b P := ⟨Or.inl rfl, fun m' q => absurd q (h m'), fun q => ⟨q, Nat.le_refl _⟩⟩
theorem BC.tr {b b1 b2 : Nat} {P Q R : Nat → Prop} (h1 : BC b b1 P) (h2 : BC b1 b2 Q) (hr : ∀ m', R m' ↔ P m' ∨ Q m') : BC b b2 R := by
  refine ⟨?_, fun m' q => ?_, fun q => ?_⟩
  · rcases h2.1 with e | ⟨m', q, e⟩
    · rcases h1.1 with e1 | ⟨m', q, e1⟩
      · exact Or.inl (e.trans e1)
      · exact Or.inr ⟨m', (hr m').mpr (Or.inl q), e.trans e1⟩
    · exact Or.inr ⟨m', (hr m').mpr (Or.inr q), e⟩
  · rcases (hr m').mp q with q | q
    · have a := h1.2.1 m' q
      have c := h2.2.2 a.1
      exact ⟨c.1, by omega⟩
    · exact h2.2.1 m' q
  · have a := h1.2.2 q
    have c := h2.2.2 a.1
    exact ⟨c.1, by omega⟩
theorem BC.mn {b v : Nat} {P : Nat → Prop} (h : BC 0 v P) : BC b (xpM b v) P := by
  unfold xpM
  split
  · rename_i hv
    refine ⟨?_, h.2.1, fun q => ⟨hv.1, by omega⟩⟩
    rcases h.1 with e | e
    · exact absurd e hv.1
    · exact Or.inr e
  · rename_i hv
    refine ⟨Or.inl rfl, fun m' q => ?_, fun q => ⟨q, Nat.le_refl _⟩⟩
    have a := h.2.1 m' q
    exact ⟨by omega, by omega⟩
theorem xp_BC (t : eqT) : ∀ d e m, BC 0 (xp t d e m) (rch t d e m) := by
  intro d
  induction d with
  | zero =>
    intro e m
    show BC 0 (xpB t e m) _
    unfold xpB
    by_cases he : e = t
    · rw [if_pos he]
      exact ⟨Or.inr ⟨m, ⟨he, rfl⟩, rfl⟩, fun m' q => ⟨by omega, by rw [q.2]; exact Nat.le_refl _⟩, fun q => absurd rfl q⟩
    · rw [if_neg he]; exact BC.no fun m' q => he q.1
  | succ d ih =>
    intro e m
    have loop : ∀ i, i ≤ 10 → BC (xpB t e m) (xpL (xp t d) e m (xpB t e m) i) (fun m' => ∃ k e1, k < i ∧ dnV k e = some e1 ∧ rch t d e1 (mkN k e m) m') := by
      intro i
      induction i with
      | zero => intro _; exact BC.no fun m' ⟨k, _, q, _⟩ => absurd q (Nat.not_lt_zero k)
      | succ i ihi =>
        intro hi
        have h1 := ihi (by omega)
        show BC _ (xpS (xp t d) e m (xpL (xp t d) e m (xpB t e m) i) i) _
        generalize xpL (xp t d) e m (xpB t e m) i = b1 at h1
        unfold xpS
        cases hd : dnV i e with
        | none =>
          refine BC.tr h1 (BC.no (P := fun _ => False) fun _ q => q) fun m' => ⟨?_, ?_⟩
          · rintro ⟨k, e1, h5, h6, h7⟩
            by_cases hki : k = i
            · subst hki; rw [hd] at h6; cases h6
            · exact Or.inl ⟨k, e1, by omega, h6, h7⟩
          · rintro (⟨k, e1, h5, h6⟩ | q)
            · exact ⟨k, e1, by omega, h6⟩
            · exact q.elim
        | some e2 =>
          refine BC.tr h1 (BC.mn (ih e2 (mkN i e m))) fun m' => ⟨?_, ?_⟩
          · rintro ⟨k, e1, h5, h6, h7⟩
            by_cases hki : k = i
            · subst hki; rw [hd] at h6; cases h6; exact Or.inr h7
            · exact Or.inl ⟨k, e1, by omega, h6, h7⟩
          · rintro (⟨k, e1, h5, h6⟩ | q)
            · exact ⟨k, e1, by omega, h6⟩
            · exact ⟨i, e2, Nat.lt_succ_self i, hd, q⟩
    have hb : BC 0 (xpB t e m) (fun m' => e = t ∧ m' = m) := by
      unfold xpB
      by_cases he : e = t
      · rw [if_pos he]
        exact ⟨Or.inr ⟨m, ⟨he, rfl⟩, rfl⟩, fun m' q => ⟨by omega, by rw [q.2]; exact Nat.le_refl _⟩, fun q => absurd rfl q⟩
      · rw [if_neg he]; exact BC.no fun m' q => he q.1
    exact BC.tr hb (loop 10 (Nat.le_refl 10)) fun m' => Iff.rfl
theorem xp_sk {t e : eqT} : (xp t 3 e 0 = 0 ↔ sk t 3 e 0 0 = 0) ∧ (xp t 3 e 0 ≠ 0 → (xp t 3 e 0 - 1) % 100 = sk t 3 e 0 0 - 1) := by
  have h1 := xp_BC t 3 e 0
  have h2 := sk_BO t 3 e 0 0 (by decide) (by decide)
  rcases h1.1 with a1 | ⟨m1, p1_, a1⟩
  · rcases h2.1 with a2 | ⟨m2, p2_, a2⟩
    · exact ⟨⟨fun _ => a2, fun _ => a1⟩, fun q => absurd a1 q⟩
    · exact absurd a1 (h1.2.1 m2 ((rch_rcc t 3 e 0 m2).mpr p2_)).1
  · have q1 := (rch_rcc t 3 e 0 m1).mp p1_
    have c1 := h2.2.1 m1 q1
    rcases h2.1 with a2 | ⟨m2, p2_, a2⟩
    · exact absurd a2 c1.1
    · have c2 := h1.2.1 m2 ((rch_rcc t 3 e 0 m2).mpr p2_)
      have r1 := rcc_ge t 3 e 0 m1 (by decide) q1
      have r2 := rcc_ge t 3 e 0 m2 (by decide) p2_
      rw [a2, Nat.add_sub_cancel] at c1
      rw [a1] at c2
      have e12 : cst m1 = cst m2 := by omega
      refine ⟨⟨fun w => by omega, fun w => by omega⟩, fun _ => ?_⟩
      rw [a1, a2, Nat.add_sub_cancel, Nat.add_sub_cancel, e12]
      exact cst_mod m2 r2.1
theorem xp_lt {t : eqT} {d m : Nat} {e : eqT} (hm : m < 32) : xp t d e m < 1000 := by
  rcases (xp_BC t d e m).1 with a1 | ⟨m1, p1_, a1⟩
  · omega
  · have := cst_lt m1 (rcc_ge t d e m m1 hm ((rch_rcc t d e m m1).mp p1_)).1
    omega
/-! how many cells the rows of rules take -/
def dnC (k : Nat) (e : eqT) : Nat := match dnV k e with
  | none => 0
  | some _ => 1
def xcS (F : eqT → Nat) (e : eqT) (k : Nat) : Nat := match dnV k e with
  | none => 0
  | some e1 => (if 5 ≤ k then 2 else 1) + F e1
def xcL (F : eqT → Nat) (e : eqT) : Nat → Nat
  | 0 => 0
  | k + 1 => xcL F e k + xcS F e k
def xcT : Nat → eqT → Nat
  | 0, _ => 0
  | d + 1, e => xcL (xcT d) e 10
def xcA : Nat → eqT → Nat → Nat
  | 0, _, _ => 0
  | d + 1, e, i => xcL (xcT d) e i
theorem dnC_s {k : Nat} {e e1 : eqT} (h : dnV k e = some e1) : dnC k e = 1 := by unfold dnC; rw [h]
theorem dnC_n {k : Nat} {e : eqT} (h : dnV k e = none) : dnC k e = 0 := by unfold dnC; rw [h]
theorem dnC_le {k : Nat} {e : eqT} : dnC k e ≤ 1 := by unfold dnC; split <;> omega
theorem dnC_xcS {F : eqT → Nat} {k : Nat} {e : eqT} : dnC k e ≤ xcS F e k := by
  unfold dnC xcS
  cases dnV k e with
  | none => exact Nat.le_refl 0
  | some e1 => show 1 ≤ (if 5 ≤ k then 2 else 1) + F e1; split <;> omega
theorem xcS_s {F : eqT → Nat} {k : Nat} {e e1 : eqT} (h : dnV k e = some e1) : xcS F e k = (if 5 ≤ k then 2 else 1) + F e1 := by unfold xcS; rw [h]
theorem xcS_n {F : eqT → Nat} {k : Nat} {e : eqT} (h : dnV k e = none) : xcS F e k = 0 := by unfold xcS; rw [h]
theorem xcL_up {F : eqT → Nat} {e : eqT} {i : Nat} : ∀ d, xcL F e i ≤ xcL F e (i + d)
  | 0 => Nat.le_refl _
  | d + 1 => Nat.le_trans (xcL_up d) (Nat.le_add_right _ _)
theorem xcA_le {d i : Nat} {e : eqT} (hi : i ≤ 10) : xcA d e i ≤ xcT d e := by
  cases d with
  | zero => exact Nat.le_refl 0
  | succ d =>
    have := xcL_up (F := xcT d) (e := e) (i := i) (10 - i)
    rw [show i + (10 - i) = 10 by omega] at this
    exact this
theorem xcT_step {F : eqT → Nat} {a b : Nat} (hF : ∀ e, F e ≤ a) (hN : ∀ e, eq_may e = false → F e ≤ b) (e : eqT) : (eq_may e = true → xcL F e 10 ≤ 13 + 8 * a + b) ∧ (eq_may e = false → xcL F e 10 ≤ 10 + 7 * a) := by
  have sb : ∀ k, xcS F e k ≤ (if 5 ≤ k then 2 else 1) + a := fun k => by
    cases hd : dnV k e with
    | none => rw [xcS_n hd]; exact Nat.zero_le _
    | some e1 => rw [xcS_s hd]; have := hF e1; omega
  have s0 := sb 0; have s1 := sb 1; have s2 := sb 2; have s3 := sb 3; have s4 := sb 4; have s5 := sb 5; have s6 := sb 6; have s8 := sb 8; have s9 := sb 9
  have s7 : xcS F e 7 = 0 := xcS_n dnV_7
  rw [if_neg (by decide)] at s0 s1 s2 s3 s4
  rw [if_pos (by decide)] at s5 s6 s8 s9
  have sum : xcL F e 10 = 0 + xcS F e 0 + xcS F e 1 + xcS F e 2 + xcS F e 3 + xcS F e 4 + xcS F e 5 + xcS F e 6 + xcS F e 7 + xcS F e 8 + xcS F e 9 := rfl
  constructor
  · intro hm
    have h2 : xcS F e 2 ≤ 1 + b := by
      have hd : dnV 2 e = some (eq_cS e) := rfl
      rw [xcS_s hd, if_neg (by decide)]
      have hn : eq_may (eq_cS e) = false := by
        cases hq : eq_may (eq_cS e) with
        | false => rfl
        | true => exact absurd (may_3 hq).2.1 (may_3 hm).2.2
      have := hN _ hn; omega
    omega
  · intro hm
    have h4 : xcS F e 4 = 0 := xcS_n (dnV_no (Or.inl rfl) hm)
    have h9 : xcS F e 9 = 0 := xcS_n (dnV_no (Or.inr rfl) hm)
    omega
theorem xcT_3 (e : eqT) : xcT 3 e ≤ 1130 := by
  have c0 : ∀ e, xcT 0 e ≤ 0 := fun e => Nat.le_refl 0
  have c1 := xcT_step (F := xcT 0) (a := 0) (b := 0) c0 (fun e _ => c0 e)
  have c1a : ∀ e, xcT 1 e ≤ 13 := fun e => by
    show xcL (xcT 0) e 10 ≤ 13
    have h := c1 e
    cases hm : eq_may e with
    | true => exact h.1 hm
    | false => have := h.2 hm; omega
  have c2 := xcT_step (F := xcT 1) (a := 13) (b := 10) c1a (fun e hm => (c1 e).2 hm)
  have c2a : ∀ e, xcT 2 e ≤ 127 := fun e => by
    show xcL (xcT 1) e 10 ≤ 127
    have h := c2 e
    cases hm : eq_may e with
    | true => exact h.1 hm
    | false => have := h.2 hm; omega
  have c3 := xcT_step (F := xcT 2) (a := 127) (b := 101) c2a (fun e hm => (c2 e).2 hm)
  show xcL (xcT 2) e 10 ≤ 1130
  have h := c3 e
  cases hm : eq_may e with
  | true => exact h.1 hm
  | false => have := h.2 hm; omega

set_option maxHeartbeats 4000000 in
set_option maxRecDepth 100000 in
theorem c_X11_doneP (l : Launch) (G : mq_G) (A : Nat → Prop) (f : mq_F) (k y : Nat) (u9 : eqT) (mcd : Nat) : Met l yX11_done wsX11_done ({ frames := 1, cells := (mcd), slots := ((4 * mcd)), locals := 24 } : Room) (mq_Pc G A f (f y = some (cIn G 4 (eqF u9)) ∧ k < 10 ∧ dnC k u9 ≤ mcd) [.int (nI k), .ref y]) (mq_Qq G A (fun r g => ∃ q, r = oMap (dnV k u9) q ∧ (∀ y e, f y = some e → g y = some e) ∧ ∀ e, dnV k u9 = some e → g q = some (cIn G 4 (eqF e)))) (mcd) ((4 * mcd)) A := by
  refine Met.ofW (cc := cX11_done) (maxL := 7) (ret := (some (.array .int))) (by decide) rfl ?_
  intro p e s m args below meth c s₁ B hml hv
  obtain ⟨rfl, ⟨hK, hZ, hM, hA⟩, hp⟩ := hv
  have hx := B.exec
  have hb := B.bytes
  have hr := B.returns
  have hts := atoms_spec (ws := wsX11_done) B.pre
  have hown : s.vm.findClass RX11 = some m.cls := findClass_of_methodNamed B.named
  have hlocks := B.notSynchronized
  have hS : va_S A s.heap s.heap [] := va_S.rf
  have hl := lv_entry ([.int (nI k), .ref y]) (n := 7) (Nat.le_of_ble_eq_true rfl)
  rw [lg_entry_eq]
  generalize (lg_sl ([.int (nI k), .ref y]) ++ List.replicate (7 - (lg_sl ([.int (nI k), .ref y])).length) Slot.unset).toArray = ls at hl ⊢
  have hl : lv_has ls 7 [(0, .int (nI k)), (1, .ref y)] := hl
  obtain ⟨h0, hk, hmc⟩ := hp
  refine lv_aload_n hx hb dX11_done_0 rfl (lv_at hl 1 rfl) ?_
  refine lv_iconst (v := 0) hx hb dX11_done_1 (by decide) ?_
  refine mq_iald hx hb hK hM h0 (vp_in_nI (n := 0) (by decide) (by decide)) dX11_done_2 ?_
  rw [show (0 : Int32).toNatClampNeg = 0 from rfl]
  rw [show (eqF u9) 0 = u9.1 from rfl]
  refine lv_istore_n (lv' := [(2, .int u9.1), (0, .int (nI k)), (1, .ref y)]) hx hb dX11_done_3 rfl hl (by decide) rfl (fun ls hl => ?_)
  refine lv_aload_n hx hb dX11_done_4 rfl (lv_at hl 2 rfl) ?_
  refine lv_iconst (v := 1) hx hb dX11_done_5 (by decide) ?_
  refine mq_iald hx hb hK hM h0 (vp_in_nI (n := 1) (by decide) (by decide)) dX11_done_6 ?_
  rw [show (1 : Int32).toNatClampNeg = 1 from rfl]
  rw [show (eqF u9) 1 = u9.2.1 from rfl]
  refine lv_istore_n (lv' := [(3, .int u9.2.1), (2, .int u9.1), (0, .int (nI k)), (1, .ref y)]) hx hb dX11_done_7 rfl hl (by decide) rfl (fun ls hl => ?_)
  refine lv_aload_n hx hb dX11_done_8 rfl (lv_at hl 3 rfl) ?_
  refine lv_iconst (v := 2) hx hb dX11_done_9 (by decide) ?_
  refine mq_iald hx hb hK hM h0 (vp_in_nI (n := 2) (by decide) (by decide)) dX11_done_10 ?_
  rw [show (2 : Int32).toNatClampNeg = 2 from rfl]
  rw [show (eqF u9) 2 = u9.2.2.1 from rfl]
  refine lv_istore (lv' := [(4, .int u9.2.2.1), (3, .int u9.2.1), (2, .int u9.1), (0, .int (nI k)), (1, .ref y)]) hx hb dX11_done_11 hl (by decide) rfl (fun ls hl => ?_)
  refine lv_aload_n hx hb dX11_done_13 rfl (lv_at hl 4 rfl) ?_
  refine lv_iconst (v := 3) hx hb dX11_done_14 (by decide) ?_
  refine mq_iald hx hb hK hM h0 (vp_in_nI (n := 3) (by decide) (by decide)) dX11_done_15 ?_
  rw [show (3 : Int32).toNatClampNeg = 3 from rfl]
  rw [show (eqF u9) 3 = u9.2.2.2 from rfl]
  refine lv_istore (lv' := [(5, .int u9.2.2.2), (4, .int u9.2.2.1), (3, .int u9.2.1), (2, .int u9.1), (0, .int (nI k)), (1, .ref y)]) hx hb dX11_done_16 hl (by decide) rfl (fun ls hl => ?_)
  have K45 : ∀ (m9 : Bool), (m9 = eq_may u9) → ∀ (H : Heap) (locs : List Loc), mq_W G.1 A f H → va_S A s.heap H locs → ∀ (ls : Array Slot), lv_has ls 7 [(0, .int (nI k)), (2, .int u9.1), (3, .int u9.2.1), (4, .int u9.2.2.1), (5, .int u9.2.2.2), (6, .int (zb m9))] → W p l e (headSpec wsX11_done ({ frames := 1, cells := (mcd), slots := ((4 * mcd)), locals := 24 } : Room)).room s m ([.int (nI k), .ref y] : List Value).toArray below meth c H locs 0 0 (MQ below (mq_Qq G A (fun r g => ∃ q, r = oMap (dnV k u9) q ∧ (∀ y e, f y = some e → g y = some e) ∧ ∀ e, dnV k u9 = some e → g q = some (cIn G 4 (eqF e)))) ([.int (nI k), .ref y] : List Value).toArray s (mcd) ((4 * mcd)) A) (F0 m 45 ls []) := by
    intro m9 hm9 H locs hM hS ls hl
    refine lv_iload_n hx hb dX11_done_45 rfl (lv_at hl 0 rfl) ?_
    rcases (show k = 0 ∨ k = 1 ∨ k = 2 ∨ k = 3 ∨ k = 4 ∨ k = 5 ∨ k = 6 ∨ k = 7 ∨ k = 8 ∨ k = 9 by omega) with rfl | rfl | rfl | rfl | rfl | rfl | rfl | rfl | rfl | rfl
    · refine lv_tableIn (off := 54) (tgt := 100) hx hb dX11_done_46 (by decide) (by decide) (by decide) (by decide) ?_
      refine lv_iload_n hx hb dX11_done_100 rfl (lv_at hl 1 rfl) ?_
      refine lv_iconst (v := 0) hx hb dX11_done_101 (by decide) ?_
      refine lv_iload hx hb dX11_done_102 (lv_at hl 3 rfl) ?_
      refine lv_iload hx hb dX11_done_104 (lv_at hl 4 rfl) ?_
      refine lv_iload_n hx hb dX11_done_106 rfl (lv_at hl 2 rfl) ?_
      refine lv_isub hx hb dX11_done_107 ?_
      have hdc1 : 1 ≤ mcd := by rw [dnC_s (show dnV 0 u9 = some (u9.1, 0, u9.2.2.1, u9.2.2.2 - u9.2.1) from rfl)] at hmc; exact hmc
      refine mq_callq (va_runS (As := [.int u9.1, .int 0, .int u9.2.2.1, .int (u9.2.2.2 - u9.2.1)]) (rest := []) ⟨hx, hb, hml, hown, hts⟩ (c_X11_row l G A f u9.1 0 u9.2.2.1 (u9.2.2.2 - u9.2.1)) (va_cwS 4 hts gX11_done_X11_row rfl rfl rfl (by decide +kernel) ⟨Nat.le_of_ble_eq_true rfl, Nat.le_of_ble_eq_true rfl⟩) (mq_preS hK hZ hS hA hM (trivial) _) rfl rfl hl.1 rfl (lv_room (Nat.le_of_ble_eq_true rfl)) dX11_done_108 ⟨by show 0 + 1 ≤ (mcd); omega, by show 0 + 4 ≤ ((4 * mcd)); omega⟩) hS (fun r108 g108 H locs p108 hM hS => ?_)
      refine W.widen (k := 1) (n := 4) (Nat.le_of_ble_eq_true rfl) (Nat.le_of_ble_eq_true rfl) ?_
      obtain ⟨q9, er, hq9, hg9⟩ := p108
      subst er
      refine W.widen (k := (mcd)) (n := ((4 * mcd))) (by omega) (by omega) ?_
      exact mq_aret (r := some q9) rfl hx hb hr (Or.inr ⟨_, rfl⟩) hlocks hM hS (⟨q9, by rw [show dnV 0 u9 = some (u9.1, 0, u9.2.2.1, u9.2.2.2 - u9.2.1) from rfl]; rfl, fun y e he => mq_n hg9 he (mq_neN he hq9), fun e he => by rw [show dnV 0 u9 = some (u9.1, 0, u9.2.2.1, u9.2.2.2 - u9.2.1) from rfl] at he; cases he; exact mq_s hg9⟩) dX11_done_111
    · refine lv_tableIn (off := 66) (tgt := 112) hx hb dX11_done_46 (by decide) (by decide) (by decide) (by decide) ?_
      refine lv_iload_n hx hb dX11_done_112 rfl (lv_at hl 1 rfl) ?_
      refine lv_iload hx hb dX11_done_113 (lv_at hl 3 rfl) ?_
      refine lv_isub hx hb dX11_done_115 ?_
      refine lv_iload_n hx hb dX11_done_116 rfl (lv_at hl 2 rfl) ?_
      refine lv_iconst (v := 0) hx hb dX11_done_117 (by decide) ?_
      refine lv_iload hx hb dX11_done_118 (lv_at hl 4 rfl) ?_
      have hdc1 : 1 ≤ mcd := by rw [dnC_s (show dnV 1 u9 = some (u9.1 - u9.2.2.1, u9.2.1, 0, u9.2.2.2) from rfl)] at hmc; exact hmc
      refine mq_callq (va_runS (As := [.int (u9.1 - u9.2.2.1), .int u9.2.1, .int 0, .int u9.2.2.2]) (rest := []) ⟨hx, hb, hml, hown, hts⟩ (c_X11_row l G A f (u9.1 - u9.2.2.1) u9.2.1 0 u9.2.2.2) (va_cwS 4 hts gX11_done_X11_row rfl rfl rfl (by decide +kernel) ⟨Nat.le_of_ble_eq_true rfl, Nat.le_of_ble_eq_true rfl⟩) (mq_preS hK hZ hS hA hM (trivial) _) rfl rfl hl.1 rfl (lv_room (Nat.le_of_ble_eq_true rfl)) dX11_done_120 ⟨by show 0 + 1 ≤ (mcd); omega, by show 0 + 4 ≤ ((4 * mcd)); omega⟩) hS (fun r120 g120 H locs p120 hM hS => ?_)
      refine W.widen (k := 1) (n := 4) (Nat.le_of_ble_eq_true rfl) (Nat.le_of_ble_eq_true rfl) ?_
      obtain ⟨q9, er, hq9, hg9⟩ := p120
      subst er
      refine W.widen (k := (mcd)) (n := ((4 * mcd))) (by omega) (by omega) ?_
      exact mq_aret (r := some q9) rfl hx hb hr (Or.inr ⟨_, rfl⟩) hlocks hM hS (⟨q9, by rw [show dnV 1 u9 = some (u9.1 - u9.2.2.1, u9.2.1, 0, u9.2.2.2) from rfl]; rfl, fun y e he => mq_n hg9 he (mq_neN he hq9), fun e he => by rw [show dnV 1 u9 = some (u9.1 - u9.2.2.1, u9.2.1, 0, u9.2.2.2) from rfl] at he; cases he; exact mq_s hg9⟩) dX11_done_123
    · refine lv_tableIn (off := 78) (tgt := 124) hx hb dX11_done_46 (by decide) (by decide) (by decide) (by decide) ?_
      refine lv_iload hx hb dX11_done_124 (lv_at hl 3 rfl) ?_
      refine lv_iload hx hb dX11_done_126 (lv_at hl 4 rfl) ?_
      refine lv_iload_n hx hb dX11_done_128 rfl (lv_at hl 1 rfl) ?_
      refine lv_iload_n hx hb dX11_done_129 rfl (lv_at hl 2 rfl) ?_
      have hdc1 : 1 ≤ mcd := by rw [dnC_s (show dnV 2 u9 = some (u9.2.2.1, u9.2.2.2, u9.1, u9.2.1) from rfl)] at hmc; exact hmc
      refine mq_callq (va_runS (As := [.int u9.2.2.1, .int u9.2.2.2, .int u9.1, .int u9.2.1]) (rest := []) ⟨hx, hb, hml, hown, hts⟩ (c_X11_row l G A f u9.2.2.1 u9.2.2.2 u9.1 u9.2.1) (va_cwS 4 hts gX11_done_X11_row rfl rfl rfl (by decide +kernel) ⟨Nat.le_of_ble_eq_true rfl, Nat.le_of_ble_eq_true rfl⟩) (mq_preS hK hZ hS hA hM (trivial) _) rfl rfl hl.1 rfl (lv_room (Nat.le_of_ble_eq_true rfl)) dX11_done_130 ⟨by show 0 + 1 ≤ (mcd); omega, by show 0 + 4 ≤ ((4 * mcd)); omega⟩) hS (fun r130 g130 H locs p130 hM hS => ?_)
      refine W.widen (k := 1) (n := 4) (Nat.le_of_ble_eq_true rfl) (Nat.le_of_ble_eq_true rfl) ?_
      obtain ⟨q9, er, hq9, hg9⟩ := p130
      subst er
      refine W.widen (k := (mcd)) (n := ((4 * mcd))) (by omega) (by omega) ?_
      exact mq_aret (r := some q9) rfl hx hb hr (Or.inr ⟨_, rfl⟩) hlocks hM hS (⟨q9, by rw [show dnV 2 u9 = some (u9.2.2.1, u9.2.2.2, u9.1, u9.2.1) from rfl]; rfl, fun y e he => mq_n hg9 he (mq_neN he hq9), fun e he => by rw [show dnV 2 u9 = some (u9.2.2.1, u9.2.2.2, u9.1, u9.2.1) from rfl] at he; cases he; exact mq_s hg9⟩) dX11_done_133
    · refine lv_tableIn (off := 88) (tgt := 134) hx hb dX11_done_46 (by decide) (by decide) (by decide) (by decide) ?_
      refine lv_iload_n hx hb dX11_done_134 rfl (lv_at hl 1 rfl) ?_
      refine lv_ineg hx hb dX11_done_135 ?_
      refine lv_iload_n hx hb dX11_done_136 rfl (lv_at hl 2 rfl) ?_
      refine lv_ineg hx hb dX11_done_137 ?_
      refine lv_iload hx hb dX11_done_138 (lv_at hl 3 rfl) ?_
      refine lv_ineg hx hb dX11_done_140 ?_
      refine lv_iload hx hb dX11_done_141 (lv_at hl 4 rfl) ?_
      refine lv_ineg hx hb dX11_done_143 ?_
      have hdc1 : 1 ≤ mcd := by rw [dnC_s (show dnV 3 u9 = some (-u9.1, -u9.2.1, -u9.2.2.1, -u9.2.2.2) from rfl)] at hmc; exact hmc
      refine mq_callq (va_runS (As := [.int (-u9.1), .int (-u9.2.1), .int (-u9.2.2.1), .int (-u9.2.2.2)]) (rest := []) ⟨hx, hb, hml, hown, hts⟩ (c_X11_row l G A f (-u9.1) (-u9.2.1) (-u9.2.2.1) (-u9.2.2.2)) (va_cwS 4 hts gX11_done_X11_row rfl rfl rfl (by decide +kernel) ⟨Nat.le_of_ble_eq_true rfl, Nat.le_of_ble_eq_true rfl⟩) (mq_preS hK hZ hS hA hM (trivial) _) rfl rfl hl.1 rfl (lv_room (Nat.le_of_ble_eq_true rfl)) dX11_done_144 ⟨by show 0 + 1 ≤ (mcd); omega, by show 0 + 4 ≤ ((4 * mcd)); omega⟩) hS (fun r144 g144 H locs p144 hM hS => ?_)
      refine W.widen (k := 1) (n := 4) (Nat.le_of_ble_eq_true rfl) (Nat.le_of_ble_eq_true rfl) ?_
      obtain ⟨q9, er, hq9, hg9⟩ := p144
      subst er
      refine W.widen (k := (mcd)) (n := ((4 * mcd))) (by omega) (by omega) ?_
      exact mq_aret (r := some q9) rfl hx hb hr (Or.inr ⟨_, rfl⟩) hlocks hM hS (⟨q9, by rw [show dnV 3 u9 = some (-u9.1, -u9.2.1, -u9.2.2.1, -u9.2.2.2) from rfl]; rfl, fun y e he => mq_n hg9 he (mq_neN he hq9), fun e he => by rw [show dnV 3 u9 = some (-u9.1, -u9.2.1, -u9.2.2.1, -u9.2.2.2) from rfl] at he; cases he; exact mq_s hg9⟩) dX11_done_147
    · refine lv_tableIn (off := 102) (tgt := 148) hx hb dX11_done_46 (by decide) (by decide) (by decide) (by decide) ?_
      refine lv_iload hx hb dX11_done_148 (lv_at hl 5 rfl) ?_
      refine lv_if_eq (tgt := 166) hx hb dX11_done_150 (by decide) (fun c_150 => ?_) (fun c_150 => ?_)
      · replace c_150 : zb m9 = 0 := c_150
        rw [zb_0] at c_150
        refine lv_null hx hb dX11_done_166 ?_
        refine W.widen (k := (mcd)) (n := ((4 * mcd))) (by omega) (by omega) ?_
        exact mq_aret (r := none) rfl hx hb hr (Or.inr ⟨_, rfl⟩) hlocks hM hS (⟨0, by rw [dnV_no (by decide) (hm9.symm.trans c_150)]; rfl, fun _ _ he => he, fun e he => by rw [dnV_no (by decide) (hm9.symm.trans c_150)] at he; cases he⟩) dX11_done_167
      · replace c_150 : ¬ zb m9 = 0 := c_150
        rw [zb_n0] at c_150
        refine lv_iconst (v := 1) hx hb dX11_done_153 (by decide) ?_
        refine lv_iconst (v := 0) hx hb dX11_done_154 (by decide) ?_
        refine lv_iconst (v := 0) hx hb dX11_done_155 (by decide) ?_
        refine lv_iload hx hb dX11_done_156 (lv_at hl 4 rfl) ?_
        refine lv_iload_n hx hb dX11_done_158 rfl (lv_at hl 1 rfl) ?_
        refine lv_idiv hx hb dX11_done_159 ((may_3 (hm9.symm.trans c_150)).2.2) ?_
        have hdc1 : 1 ≤ mcd := by rw [dnC_s (dnV_4 (hm9.symm.trans c_150))] at hmc; exact hmc
        refine mq_callq (va_runS (As := [.int 1, .int 0, .int 0, .int (u9.2.2.2 / u9.1)]) (rest := []) ⟨hx, hb, hml, hown, hts⟩ (c_X11_row l G A f 1 0 0 (u9.2.2.2 / u9.1)) (va_cwS 4 hts gX11_done_X11_row rfl rfl rfl (by decide +kernel) ⟨Nat.le_of_ble_eq_true rfl, Nat.le_of_ble_eq_true rfl⟩) (mq_preS hK hZ hS hA hM (trivial) _) rfl rfl hl.1 rfl (lv_room (Nat.le_of_ble_eq_true rfl)) dX11_done_160 ⟨by show 0 + 1 ≤ (mcd); omega, by show 0 + 4 ≤ ((4 * mcd)); omega⟩) hS (fun r160 g160 H locs p160 hM hS => ?_)
        refine W.widen (k := 1) (n := 4) (Nat.le_of_ble_eq_true rfl) (Nat.le_of_ble_eq_true rfl) ?_
        obtain ⟨q9, er, hq9, hg9⟩ := p160
        subst er
        refine lv_goto (tgt := 167) hx hb dX11_done_163 (by decide) ?_
        refine W.widen (k := (mcd)) (n := ((4 * mcd))) (by omega) (by omega) ?_
        exact mq_aret (r := some q9) rfl hx hb hr (Or.inr ⟨_, rfl⟩) hlocks hM hS (⟨q9, by rw [dnV_4 (hm9.symm.trans c_150)]; rfl, fun y e he => mq_n hg9 he (mq_neN he hq9), fun e he => by rw [dnV_4 (hm9.symm.trans c_150)] at he; cases he; exact mq_s hg9⟩) dX11_done_167
    · refine lv_tableIn (off := 122) (tgt := 168) hx hb dX11_done_46 (by decide) (by decide) (by decide) (by decide) ?_
      refine lv_iload_n hx hb dX11_done_168 rfl (lv_at hl 1 rfl) ?_
      refine lv_iconst (v := 0) hx hb dX11_done_169 (by decide) ?_
      refine lv_iload hx hb dX11_done_170 (lv_at hl 3 rfl) ?_
      refine lv_iload hx hb dX11_done_172 (lv_at hl 4 rfl) ?_
      refine lv_iload_n hx hb dX11_done_174 rfl (lv_at hl 2 rfl) ?_
      refine lv_iadd hx hb dX11_done_175 ?_
      have hdc1 : 1 ≤ mcd := by rw [dnC_s (show dnV 5 u9 = some (u9.1, 0, u9.2.2.1, u9.2.2.2 + u9.2.1) from rfl)] at hmc; exact hmc
      refine mq_callq (va_runS (As := [.int u9.1, .int 0, .int u9.2.2.1, .int (u9.2.2.2 + u9.2.1)]) (rest := []) ⟨hx, hb, hml, hown, hts⟩ (c_X11_row l G A f u9.1 0 u9.2.2.1 (u9.2.2.2 + u9.2.1)) (va_cwS 4 hts gX11_done_X11_row rfl rfl rfl (by decide +kernel) ⟨Nat.le_of_ble_eq_true rfl, Nat.le_of_ble_eq_true rfl⟩) (mq_preS hK hZ hS hA hM (trivial) _) rfl rfl hl.1 rfl (lv_room (Nat.le_of_ble_eq_true rfl)) dX11_done_176 ⟨by show 0 + 1 ≤ (mcd); omega, by show 0 + 4 ≤ ((4 * mcd)); omega⟩) hS (fun r176 g176 H locs p176 hM hS => ?_)
      refine W.widen (k := 1) (n := 4) (Nat.le_of_ble_eq_true rfl) (Nat.le_of_ble_eq_true rfl) ?_
      obtain ⟨q9, er, hq9, hg9⟩ := p176
      subst er
      refine W.widen (k := (mcd)) (n := ((4 * mcd))) (by omega) (by omega) ?_
      exact mq_aret (r := some q9) rfl hx hb hr (Or.inr ⟨_, rfl⟩) hlocks hM hS (⟨q9, by rw [show dnV 5 u9 = some (u9.1, 0, u9.2.2.1, u9.2.2.2 + u9.2.1) from rfl]; rfl, fun y e he => mq_n hg9 he (mq_neN he hq9), fun e he => by rw [show dnV 5 u9 = some (u9.1, 0, u9.2.2.1, u9.2.2.2 + u9.2.1) from rfl] at he; cases he; exact mq_s hg9⟩) dX11_done_179
    · refine lv_tableIn (off := 134) (tgt := 180) hx hb dX11_done_46 (by decide) (by decide) (by decide) (by decide) ?_
      refine lv_iload_n hx hb dX11_done_180 rfl (lv_at hl 1 rfl) ?_
      refine lv_iload hx hb dX11_done_181 (lv_at hl 3 rfl) ?_
      refine lv_iadd hx hb dX11_done_183 ?_
      refine lv_iload_n hx hb dX11_done_184 rfl (lv_at hl 2 rfl) ?_
      refine lv_iconst (v := 0) hx hb dX11_done_185 (by decide) ?_
      refine lv_iload hx hb dX11_done_186 (lv_at hl 4 rfl) ?_
      have hdc1 : 1 ≤ mcd := by rw [dnC_s (show dnV 6 u9 = some (u9.1 + u9.2.2.1, u9.2.1, 0, u9.2.2.2) from rfl)] at hmc; exact hmc
      refine mq_callq (va_runS (As := [.int (u9.1 + u9.2.2.1), .int u9.2.1, .int 0, .int u9.2.2.2]) (rest := []) ⟨hx, hb, hml, hown, hts⟩ (c_X11_row l G A f (u9.1 + u9.2.2.1) u9.2.1 0 u9.2.2.2) (va_cwS 4 hts gX11_done_X11_row rfl rfl rfl (by decide +kernel) ⟨Nat.le_of_ble_eq_true rfl, Nat.le_of_ble_eq_true rfl⟩) (mq_preS hK hZ hS hA hM (trivial) _) rfl rfl hl.1 rfl (lv_room (Nat.le_of_ble_eq_true rfl)) dX11_done_188 ⟨by show 0 + 1 ≤ (mcd); omega, by show 0 + 4 ≤ ((4 * mcd)); omega⟩) hS (fun r188 g188 H locs p188 hM hS => ?_)
      refine W.widen (k := 1) (n := 4) (Nat.le_of_ble_eq_true rfl) (Nat.le_of_ble_eq_true rfl) ?_
      obtain ⟨q9, er, hq9, hg9⟩ := p188
      subst er
      refine W.widen (k := (mcd)) (n := ((4 * mcd))) (by omega) (by omega) ?_
      exact mq_aret (r := some q9) rfl hx hb hr (Or.inr ⟨_, rfl⟩) hlocks hM hS (⟨q9, by rw [show dnV 6 u9 = some (u9.1 + u9.2.2.1, u9.2.1, 0, u9.2.2.2) from rfl]; rfl, fun y e he => mq_n hg9 he (mq_neN he hq9), fun e he => by rw [show dnV 6 u9 = some (u9.1 + u9.2.2.1, u9.2.1, 0, u9.2.2.2) from rfl] at he; cases he; exact mq_s hg9⟩) dX11_done_191
    · refine lv_tableIn (off := 176) (tgt := 222) hx hb dX11_done_46 (by decide) (by decide) (by decide) (by decide) ?_
      refine lv_null hx hb dX11_done_222 ?_
      refine W.widen (k := (mcd)) (n := ((4 * mcd))) (by omega) (by omega) ?_
      exact mq_aret (r := none) rfl hx hb hr (Or.inr ⟨_, rfl⟩) hlocks hM hS (⟨0, by rw [show dnV 7 u9 = none from rfl]; rfl, fun _ _ he => he, fun e he => by rw [show dnV 7 u9 = none from rfl] at he; cases he⟩) dX11_done_223
    · refine lv_tableIn (off := 146) (tgt := 192) hx hb dX11_done_46 (by decide) (by decide) (by decide) (by decide) ?_
      refine lv_iload_n hx hb dX11_done_192 rfl (lv_at hl 1 rfl) ?_
      refine lv_ineg hx hb dX11_done_193 ?_
      refine lv_iload_n hx hb dX11_done_194 rfl (lv_at hl 2 rfl) ?_
      refine lv_ineg hx hb dX11_done_195 ?_
      refine lv_iload hx hb dX11_done_196 (lv_at hl 3 rfl) ?_
      refine lv_iload hx hb dX11_done_198 (lv_at hl 4 rfl) ?_
      have hdc1 : 1 ≤ mcd := by rw [dnC_s (show dnV 8 u9 = some (-u9.1, -u9.2.1, u9.2.2.1, u9.2.2.2) from rfl)] at hmc; exact hmc
      refine mq_callq (va_runS (As := [.int (-u9.1), .int (-u9.2.1), .int u9.2.2.1, .int u9.2.2.2]) (rest := []) ⟨hx, hb, hml, hown, hts⟩ (c_X11_row l G A f (-u9.1) (-u9.2.1) u9.2.2.1 u9.2.2.2) (va_cwS 4 hts gX11_done_X11_row rfl rfl rfl (by decide +kernel) ⟨Nat.le_of_ble_eq_true rfl, Nat.le_of_ble_eq_true rfl⟩) (mq_preS hK hZ hS hA hM (trivial) _) rfl rfl hl.1 rfl (lv_room (Nat.le_of_ble_eq_true rfl)) dX11_done_200 ⟨by show 0 + 1 ≤ (mcd); omega, by show 0 + 4 ≤ ((4 * mcd)); omega⟩) hS (fun r200 g200 H locs p200 hM hS => ?_)
      refine W.widen (k := 1) (n := 4) (Nat.le_of_ble_eq_true rfl) (Nat.le_of_ble_eq_true rfl) ?_
      obtain ⟨q9, er, hq9, hg9⟩ := p200
      subst er
      refine W.widen (k := (mcd)) (n := ((4 * mcd))) (by omega) (by omega) ?_
      exact mq_aret (r := some q9) rfl hx hb hr (Or.inr ⟨_, rfl⟩) hlocks hM hS (⟨q9, by rw [show dnV 8 u9 = some (-u9.1, -u9.2.1, u9.2.2.1, u9.2.2.2) from rfl]; rfl, fun y e he => mq_n hg9 he (mq_neN he hq9), fun e he => by rw [show dnV 8 u9 = some (-u9.1, -u9.2.1, u9.2.2.1, u9.2.2.2) from rfl] at he; cases he; exact mq_s hg9⟩) dX11_done_203
    · refine lv_tableIn (off := 158) (tgt := 204) hx hb dX11_done_46 (by decide) (by decide) (by decide) (by decide) ?_
      refine lv_iload hx hb dX11_done_204 (lv_at hl 5 rfl) ?_
      refine lv_if_eq (tgt := 220) hx hb dX11_done_206 (by decide) (fun c_206 => ?_) (fun c_206 => ?_)
      · replace c_206 : zb m9 = 0 := c_206
        rw [zb_0] at c_206
        refine lv_null hx hb dX11_done_220 ?_
        refine W.widen (k := (mcd)) (n := ((4 * mcd))) (by omega) (by omega) ?_
        exact mq_aret (r := none) rfl hx hb hr (Or.inr ⟨_, rfl⟩) hlocks hM hS (⟨0, by rw [dnV_no (by decide) (hm9.symm.trans c_206)]; rfl, fun _ _ he => he, fun e he => by rw [dnV_no (by decide) (hm9.symm.trans c_206)] at he; cases he⟩) dX11_done_221
      · replace c_206 : ¬ zb m9 = 0 := c_206
        rw [zb_n0] at c_206
        refine lv_iconst (v := 1) hx hb dX11_done_209 (by decide) ?_
        refine lv_iconst (v := 0) hx hb dX11_done_210 (by decide) ?_
        refine lv_iconst (v := 0) hx hb dX11_done_211 (by decide) ?_
        refine lv_iload hx hb dX11_done_212 (lv_at hl 4 rfl) ?_
        have hdc1 : 1 ≤ mcd := by rw [dnC_s (dnV_9 (hm9.symm.trans c_206))] at hmc; exact hmc
        refine mq_callq (va_runS (As := [.int 1, .int 0, .int 0, .int u9.2.2.2]) (rest := []) ⟨hx, hb, hml, hown, hts⟩ (c_X11_row l G A f 1 0 0 u9.2.2.2) (va_cwS 4 hts gX11_done_X11_row rfl rfl rfl (by decide +kernel) ⟨Nat.le_of_ble_eq_true rfl, Nat.le_of_ble_eq_true rfl⟩) (mq_preS hK hZ hS hA hM (trivial) _) rfl rfl hl.1 rfl (lv_room (Nat.le_of_ble_eq_true rfl)) dX11_done_214 ⟨by show 0 + 1 ≤ (mcd); omega, by show 0 + 4 ≤ ((4 * mcd)); omega⟩) hS (fun r214 g214 H locs p214 hM hS => ?_)
        refine W.widen (k := 1) (n := 4) (Nat.le_of_ble_eq_true rfl) (Nat.le_of_ble_eq_true rfl) ?_
        obtain ⟨q9, er, hq9, hg9⟩ := p214
        subst er
        refine lv_goto (tgt := 221) hx hb dX11_done_217 (by decide) ?_
        refine W.widen (k := (mcd)) (n := ((4 * mcd))) (by omega) (by omega) ?_
        exact mq_aret (r := some q9) rfl hx hb hr (Or.inr ⟨_, rfl⟩) hlocks hM hS (⟨q9, by rw [dnV_9 (hm9.symm.trans c_206)]; rfl, fun y e he => mq_n hg9 he (mq_neN he hq9), fun e he => by rw [dnV_9 (hm9.symm.trans c_206)] at he; cases he; exact mq_s hg9⟩) dX11_done_221
  refine lv_iload_n hx hb dX11_done_18 rfl (lv_at hl 2 rfl) ?_
  refine lv_if_ne (tgt := 42) hx hb dX11_done_19 (by decide) (fun c_19 => ?_) (fun c_19 => ?_)
  · refine lv_iconst (v := 0) hx hb dX11_done_42 (by decide) ?_
    refine lv_istore (lv' := [(6, .int 0), (5, .int u9.2.2.2), (4, .int u9.2.2.1), (3, .int u9.2.1), (2, .int u9.1), (0, .int (nI k)), (1, .ref y)]) hx hb dX11_done_43 hl (by decide) rfl (fun ls hl => ?_)
    exact K45 false (by simp [eq_may, c_19]) _ _ hM hS _ (lv_sub hl [5, 4, 3, 2, 1, 0] rfl)
  · refine lv_iload hx hb dX11_done_22 (lv_at hl 1 rfl) ?_
    refine lv_if_ne (tgt := 42) hx hb dX11_done_24 (by decide) (fun c_24 => ?_) (fun c_24 => ?_)
    · refine lv_iconst (v := 0) hx hb dX11_done_42 (by decide) ?_
      refine lv_istore (lv' := [(6, .int 0), (5, .int u9.2.2.2), (4, .int u9.2.2.1), (3, .int u9.2.1), (2, .int u9.1), (0, .int (nI k)), (1, .ref y)]) hx hb dX11_done_43 hl (by decide) rfl (fun ls hl => ?_)
      exact K45 false (by simp [eq_may, c_19, c_24]) _ _ hM hS _ (lv_sub hl [5, 4, 3, 2, 1, 0] rfl)
    · refine lv_iload_n hx hb dX11_done_27 rfl (lv_at hl 3 rfl) ?_
      refine lv_if_eq (tgt := 42) hx hb dX11_done_28 (by decide) (fun c_28 => ?_) (fun c_28 => ?_)
      · refine lv_iconst (v := 0) hx hb dX11_done_42 (by decide) ?_
        refine lv_istore (lv' := [(6, .int 0), (5, .int u9.2.2.2), (4, .int u9.2.2.1), (3, .int u9.2.1), (2, .int u9.1), (0, .int (nI k)), (1, .ref y)]) hx hb dX11_done_43 hl (by decide) rfl (fun ls hl => ?_)
        exact K45 false (by simp [eq_may, c_19, c_24, c_28]) _ _ hM hS _ (lv_sub hl [5, 4, 3, 2, 1, 0] rfl)
      · refine lv_iload hx hb dX11_done_31 (lv_at hl 0 rfl) ?_
        refine lv_iload_n hx hb dX11_done_33 rfl (lv_at hl 3 rfl) ?_
        refine lv_irem hx hb dX11_done_34 (c_28) ?_
        refine lv_if_ne (tgt := 42) hx hb dX11_done_35 (by decide) (fun c_35 => ?_) (fun c_35 => ?_)
        · refine lv_iconst (v := 0) hx hb dX11_done_42 (by decide) ?_
          refine lv_istore (lv' := [(6, .int 0), (5, .int u9.2.2.2), (4, .int u9.2.2.1), (3, .int u9.2.1), (2, .int u9.1), (0, .int (nI k)), (1, .ref y)]) hx hb dX11_done_43 hl (by decide) rfl (fun ls hl => ?_)
          exact K45 false (by simp [eq_may, c_19, c_24, c_28, c_35]) _ _ hM hS _ (lv_sub hl [5, 4, 3, 2, 1, 0] rfl)
        · refine lv_iconst (v := 1) hx hb dX11_done_38 (by decide) ?_
          refine lv_goto (tgt := 43) hx hb dX11_done_39 (by decide) ?_
          refine lv_istore (lv' := [(6, .int 1), (5, .int u9.2.2.2), (4, .int u9.2.2.1), (3, .int u9.2.1), (2, .int u9.1), (0, .int (nI k)), (1, .ref y)]) hx hb dX11_done_43 hl (by decide) rfl (fun ls hl => ?_)
          exact K45 true (by simp [eq_may, c_19, c_24, c_28, c_35]) _ _ hM hS _ (lv_sub hl [5, 4, 3, 2, 1, 0] rfl)

set_option maxHeartbeats 4000000 in
set_option maxRecDepth 100000 in
theorem c_X11_explained_open (l : Launch) (G : mq_G) (A : Nat → Prop) (f : mq_F) (d : Nat) (IH : ∀ d9, d9 + 1 = d → ∀ (l : Launch) (G : mq_G) (A : Nat → Prop) (f : mq_F) (x y : Nat) (u9 t9 : eqT) (mk : Nat), Met l yX11_explained wsX11_explained ({ frames := (3 + d9), cells := xcT d9 u9, slots := 4 * xcT d9 u9, locals := (80 + 28 * d9) } : Room) (mq_Pc G A f (f x = some (cIn G 4 (eqF u9)) ∧ f y = some (cIn G 4 (eqF t9)) ∧ mk < 32 ∧ d9 ≤ 3) [.ref x, .ref y, .int (nI d9), .int (nI mk)]) (mq_Qi G A (fun r g => (∀ y e, f y = some e → g y = some e) ∧ r = du (xp t9 d9 u9 mk))) (xcT d9 u9) (4 * xcT d9 u9) A) (x y : Nat) (u9 t9 : eqT) (mk : Nat) : Met l yX11_explained wsX11_explained ({ frames := (3 + d), cells := ((xcT d u9)), slots := ((4 * xcT d u9)), locals := (80 + 28 * d) } : Room) (mq_Pc G A f (f x = some (cIn G 4 (eqF u9)) ∧ f y = some (cIn G 4 (eqF t9)) ∧ mk < 32 ∧ d ≤ 3) [.ref x, .ref y, .int (nI d), .int (nI mk)]) (mq_Qi G A (fun r g => (∀ y e, f y = some e → g y = some e) ∧ r = du (xp t9 d u9 mk))) ((xcT d u9)) ((4 * xcT d u9)) A := by
  refine Met.ofW (cc := cX11_explained) (maxL := 9) (ret := (some .int)) (by decide) rfl ?_
  intro p e s m args below meth c s₁ B hml hv
  obtain ⟨rfl, ⟨hK, hZ, hM, hA⟩, hp⟩ := hv
  have hx := B.exec
  have hb := B.bytes
  have hr := B.returns
  have hts := atoms_spec (ws := wsX11_explained) B.pre
  have hown : s.vm.findClass RX11 = some m.cls := findClass_of_methodNamed B.named
  have hlocks := B.notSynchronized
  have hS : va_S A s.heap s.heap [] := va_S.rf
  have hl := lv_entry ([.ref x, .ref y, .int (nI d), .int (nI mk)]) (n := 9) (Nat.le_of_ble_eq_true rfl)
  rw [lg_entry_eq]
  generalize (lg_sl ([.ref x, .ref y, .int (nI d), .int (nI mk)]) ++ List.replicate (9 - (lg_sl ([.ref x, .ref y, .int (nI d), .int (nI mk)])).length) Slot.unset).toArray = ls at hl ⊢
  have hl : lv_has ls 9 [(0, .ref x), (1, .ref y), (2, .int (nI d)), (3, .int (nI mk))] := hl
  obtain ⟨h0, h1, hmk, hd3⟩ := hp
  refine lv_aload_n hx hb dX11_explained_0 rfl (lv_at hl 0 rfl) ?_
  refine lv_aload_n hx hb dX11_explained_1 rfl (lv_at hl 1 rfl) ?_
  have K26 : ∀ (n9 : Nat) (i b9 : Nat), (10 - i) < n9 → (i ≤ 10) → (b9 = xpA t9 d u9 mk i) → (b9 < 1000) → ∀ (f9 : mq_F), (∀ y e, f y = some e → f9 y = some e) → ∀ (H : Heap) (locs : List Loc), mq_W G.1 A f9 H → va_S A s.heap H locs → ∀ (ls : Array Slot), lv_has ls 9 [(0, .ref x), (1, .ref y), (2, .int (nI d)), (3, .int (nI mk)), (4, .int (du b9)), (5, .int (nI i))] → W p l e (headSpec wsX11_explained ({ frames := (3 + d), cells := ((xcT d u9)), slots := ((4 * xcT d u9)), locals := (80 + 28 * d) } : Room)).room s m ([.ref x, .ref y, .int (nI d), .int (nI mk)] : List Value).toArray below meth c H locs ((xcA d u9 i)) ((4 * xcA d u9 i)) (MQ below (mq_Qi G A (fun r g => (∀ y e, f y = some e → g y = some e) ∧ r = du (xp t9 d u9 mk))) ([.ref x, .ref y, .int (nI d), .int (nI mk)] : List Value).toArray s ((xcT d u9)) ((4 * xcT d u9)) A) (F0 m 26 ls []) := by
    intro n9
    induction n9 with
    | zero => intro i b9 hn9; exact absurd hn9 (Nat.not_lt_zero _)
    | succ n9 ih26 =>
      intro i b9 hn9 hi hq hb9 f9 hk9 H locs hM hS ls hl
      have yx := hk9 _ _ h0
      have yy := hk9 _ _ h1
      have hxw : xcA d u9 i ≤ xcT d u9 := xcA_le hi
      refine lv_iload hx hb dX11_explained_26 (lv_at hl 5 rfl) ?_
      refine lv_bipush (v := 10) hx hb dX11_explained_28 (by decide) ?_
      refine lv_icmp_ge (tgt := 141) hx hb dX11_explained_30 (by decide) (fun c_30 => ?_) (fun c_30 => ?_)
      · replace c_30 : nI 10 ≤ nI i := c_30
        rw [nI_leI (by omega) (by omega)] at c_30
        refine lv_iload hx hb dX11_explained_141 (lv_at hl 4 rfl) ?_
        refine W.widen (k := ((xcT d u9))) (n := ((4 * xcT d u9))) (by omega) (by omega) ?_
        exact mq_iret (v := du b9) hx hb hr hlocks hM hS (⟨hk9, by rw [hq, show i = 10 by omega, xpA_10]⟩) dX11_explained_143
      · replace c_30 : ¬ nI 10 ≤ nI i := c_30
        rw [nI_leI (by omega) (by omega)] at c_30
        refine lv_iload_n hx hb dX11_explained_33 rfl (lv_at hl 2 rfl) ?_
        refine lv_if_le (tgt := 141) hx hb dX11_explained_34 (by decide) (fun c_34 => ?_) (fun c_34 => ?_)
        · replace c_34 : nI d ≤ nI 0 := c_34
          rw [nI_leI (by omega) (by omega)] at c_34
          refine lv_iload hx hb dX11_explained_141 (lv_at hl 4 rfl) ?_
          refine W.widen (k := ((xcT d u9))) (n := ((4 * xcT d u9))) (by omega) (by omega) ?_
          exact mq_iret (v := du b9) hx hb hr hlocks hM hS (⟨hk9, by rw [hq, show d = 0 by omega]; rfl⟩) dX11_explained_143
        · replace c_34 : ¬ nI d ≤ nI 0 := c_34
          rw [nI_leI (by omega) (by omega)] at c_34
          obtain ⟨d9, hd9⟩ : ∃ k, d = k + 1 := ⟨d - 1, by omega⟩
          have hxa : xcA d u9 (i + 1) = xcA d u9 i + xcS (xcT d9) u9 i := by rw [hd9]; rfl
          have hxm : xcA d u9 (i + 1) ≤ xcT d u9 := xcA_le (by omega)
          have hdx : dnC i u9 ≤ xcS (xcT d9) u9 i := dnC_xcS
          refine lv_iload hx hb dX11_explained_37 (lv_at hl 5 rfl) ?_
          refine lv_aload_n hx hb dX11_explained_39 rfl (lv_at hl 0 rfl) ?_
          refine mq_callq (va_runS (As := [.int (nI i), .ref x]) (rest := []) ⟨hx, hb, hml, hown, hts⟩ (c_X11_doneP l G A f9 i x u9 (dnC i u9)) (va_cwS 2 hts gX11_explained_X11_done rfl rfl rfl (by decide +kernel) ⟨by show 1 + 1 ≤ (3 + d); omega, by show 8 + (7 + 11) + 24 ≤ (80 + 28 * d); omega⟩) (mq_preS hK hZ hS hA hM (⟨yx, by omega, Nat.le_refl _⟩) _) rfl rfl hl.1 rfl (lv_room (Nat.le_of_ble_eq_true rfl)) dX11_explained_40 ⟨by show ((xcA d u9 i)) + ((dnC i u9)) ≤ ((xcT d u9)); omega, by show ((4 * xcA d u9 i)) + ((4 * dnC i u9)) ≤ ((4 * xcT d u9)); omega⟩) hS (fun r40 g40 H locs p40 hM hS => ?_)
          refine W.widen (k := ((xcA d u9 i) + (dnC i u9))) (n := ((4 * xcA d u9 i) + (4 * dnC i u9))) (by omega) (by omega) ?_
          obtain ⟨q40, er, hk40, hv40⟩ := p40
          subst er
          have yx4 := hk40 _ _ yx
          have yy4 := hk40 _ _ yy
          have hk94 : ∀ y e, f y = some e → g40 y = some e := fun y e he => hk40 _ _ (hk9 y e he)
          refine mq_astoreq (lv' := [(6, va_rf (oMap (dnV i u9) q40)), (0, .ref x), (1, .ref y), (2, .int (nI d)), (3, .int (nI mk)), (4, .int (du b9)), (5, .int (nI i))]) hx hb dX11_explained_43 hl (by decide) rfl (fun ls hl => ?_)
          refine mq_aloadq hx hb dX11_explained_45 (lv_at hl 0 rfl) ?_
          refine mq_ifnullq (tgt := 135) hx hb dX11_explained_47 (by decide) (fun c_47 => ?_) (fun a9 c_47 => ?_)
          · replace c_47 := oMap_none c_47
            rw [c_47] at hl
            have hxn := xcS_n (F := xcT d9) c_47
            have hdn := dnC_n c_47
            refine lv_iinc (v := nI (i + 1)) (lv' := [(5, .int (nI (i + 1))), (6, .null), (0, .ref x), (1, .ref y), (2, .int (nI d)), (3, .int (nI mk)), (4, .int (du b9))]) hx hb dX11_explained_135 hl (k := 6) rfl (nI_add _ _) (by decide) rfl (fun ls hl => ?_)
            refine lv_goto (tgt := 26) hx hb dX11_explained_138 (by decide) ?_
            exact W.widen (by first | omega | (simp only [List.length_nil]; omega)) (by first | omega | (simp only [List.length_nil]; omega)) (ih26 (i + 1) b9 (by omega) (by omega) (by rw [hq, hd9, xpA_n c_47]) (hb9) _  (hk94) _ _ hM hS _ (lv_sub hl [2, 3, 4, 5, 6, 0] rfl))
          · obtain ⟨w9, c_47⟩ := oMap_some c_47
            rw [c_47] at hl
            have yq := hv40 _ c_47
            have hdc := dnC_s c_47
            have hxs := xcS_s (F := xcT d9) c_47
            refine lv_iload hx hb dX11_explained_50 (lv_at hl 6 rfl) ?_
            refine lv_iconst (v := 5) hx hb dX11_explained_52 (by decide) ?_
            refine lv_icmp_lt (tgt := 76) hx hb dX11_explained_53 (by decide) (fun c_53 => ?_) (fun c_53 => ?_)
            · replace c_53 : nI i < nI 5 := c_53
              rw [nI_ltI (by omega) (by omega)] at c_53
              rw [if_neg (by omega)] at hxs
              refine lv_iconst (v := 0) hx hb dX11_explained_76 (by decide) ?_
              refine lv_istore (lv' := [(7, .int 0), (6, .ref q40), (0, .ref x), (1, .ref y), (2, .int (nI d)), (3, .int (nI mk)), (4, .int (du b9)), (5, .int (nI i))]) hx hb dX11_explained_77 hl (by decide) rfl (fun ls hl => ?_)
              refine lv_aload hx hb dX11_explained_79 (lv_at hl 1 rfl) ?_
              refine lv_aload_n hx hb dX11_explained_81 rfl (lv_at hl 3 rfl) ?_
              refine lv_iload_n hx hb dX11_explained_82 rfl (lv_at hl 4 rfl) ?_
              refine lv_iconst (v := 1) hx hb dX11_explained_83 (by decide) ?_
              refine lv_isub hx hb dX11_explained_84 ?_
              rw [show (nI d) - 1 = nI d9 from by rw [hd9]; exact du_S d9]
              refine lv_iload hx hb dX11_explained_85 (lv_at hl 0 rfl) ?_
              refine lv_if_eq (tgt := 101) hx hb dX11_explained_87 (by decide) (fun c_87 => ?_) (fun c_87 => absurd c_87 (by decide))
              refine lv_iload_n hx hb dX11_explained_101 rfl (lv_at hl 5 rfl) ?_
              refine mq_calli (va_runS (As := [.ref q40, .ref y, .int (nI d9), .int (nI mk)]) (rest := []) ⟨hx, hb, hml, hown, hts⟩ (IH d9 hd9.symm l G A g40 q40 y w9 t9 mk) (va_cwS 4 hts gX11_explained_X11_explained rfl rfl rfl (by decide +kernel) ⟨by show (3 + d9) + 1 ≤ (3 + d); omega, by show 8 + (9 + 11) + (80 + 28 * d9) ≤ (80 + 28 * d); omega⟩) (mq_preS hK hZ hS hA hM (⟨yq, yy4, hmk, by omega⟩) _) rfl rfl hl.1 rfl (lv_room (Nat.le_of_ble_eq_true rfl)) dX11_explained_102 ⟨by show ((xcA d u9 i) + (dnC i u9)) + ((xcT d9 w9)) ≤ ((xcT d u9)); omega, by show ((4 * xcA d u9 i) + (4 * dnC i u9)) + ((4 * xcT d9 w9)) ≤ ((4 * xcT d u9)); omega⟩) hS (fun r102 g102 H locs p102 hM hS => ?_)
              refine W.widen (k := ((xcA d u9 i) + (dnC i u9) + (xcT d9 w9))) (n := ((4 * xcA d u9 i) + (4 * dnC i u9) + (4 * xcT d9 w9))) (by omega) (by omega) ?_
              obtain ⟨hk102, rfl⟩ := p102
              have hk97 : ∀ y e, f y = some e → g102 y = some e := fun y e he => hk102 _ _ (hk94 y e he)
              have hxl := xp_lt (t := t9) (d := d9) (m := mk) (e := w9) (hmk)
              have hmkN : mkN i u9 mk = mk := by unfold mkN; rw [if_neg (fun w => by omega)]
              refine lv_istore (lv' := [(8, .int (du (xp t9 d9 w9 mk))), (7, .int 0), (6, .ref q40), (0, .ref x), (1, .ref y), (2, .int (nI d)), (3, .int (nI mk)), (4, .int (du b9)), (5, .int (nI i))]) hx hb dX11_explained_105 hl (by decide) rfl (fun ls hl => ?_)
              refine lv_iload hx hb dX11_explained_107 (lv_at hl 0 rfl) ?_
              refine lv_iconst (v := (-1)) hx hb dX11_explained_109 (by decide) ?_
              refine lv_icmp_eq (tgt := 131) hx hb dX11_explained_110 (by decide) (fun c_110 => ?_) (fun c_110 => ?_)
              · replace c_110 : du (xp t9 d9 w9 mk) = (-1) := c_110
                rw [du_m1 (by omega)] at c_110
                refine lv_iload hx hb dX11_explained_131 (lv_at hl 7 rfl) ?_
                refine lv_istore (lv' := [(4, .int (du b9)), (8, .int (du (xp t9 d9 w9 mk))), (7, .int 0), (6, .ref q40), (0, .ref x), (1, .ref y), (2, .int (nI d)), (3, .int (nI mk)), (5, .int (nI i))]) hx hb dX11_explained_133 hl (by decide) rfl (fun ls hl => ?_)
                refine lv_iinc (v := nI (i + 1)) (lv' := [(5, .int (nI (i + 1))), (4, .int (du b9)), (8, .int (du (xp t9 d9 w9 mk))), (7, .int 0), (6, .ref q40), (0, .ref x), (1, .ref y), (2, .int (nI d)), (3, .int (nI mk))]) hx hb dX11_explained_135 hl (k := 8) rfl (nI_add _ _) (by decide) rfl (fun ls hl => ?_)
                refine lv_goto (tgt := 26) hx hb dX11_explained_138 (by decide) ?_
                exact W.widen (by first | omega | (simp only [List.length_nil]; omega)) (by first | omega | (simp only [List.length_nil]; omega)) (ih26 (i + 1) b9 (by omega) (by omega) (by rw [hd9, xpA_s c_47, hmkN, ← hd9, ← hq]; unfold xpM; rw [if_neg (fun w => w.1 c_110)]) (hb9) _  (hk97) _ _ hM hS _ (lv_sub hl [5, 6, 7, 8, 1, 0] rfl))
              · replace c_110 : ¬ du (xp t9 d9 w9 mk) = (-1) := c_110
                rw [du_m1 (by omega)] at c_110
                refine lv_iload hx hb dX11_explained_113 (lv_at hl 7 rfl) ?_
                refine lv_iconst (v := (-1)) hx hb dX11_explained_115 (by decide) ?_
                refine lv_icmp_eq (tgt := 126) hx hb dX11_explained_116 (by decide) (fun c_116 => ?_) (fun c_116 => ?_)
                · replace c_116 : du b9 = (-1) := c_116
                  rw [du_m1 (by omega)] at c_116
                  refine lv_iload hx hb dX11_explained_126 (lv_at hl 0 rfl) ?_
                  refine lv_goto (tgt := 133) hx hb dX11_explained_128 (by decide) ?_
                  refine lv_istore (lv' := [(4, .int (du (xp t9 d9 w9 mk))), (8, .int (du (xp t9 d9 w9 mk))), (7, .int 0), (6, .ref q40), (0, .ref x), (1, .ref y), (2, .int (nI d)), (3, .int (nI mk)), (5, .int (nI i))]) hx hb dX11_explained_133 hl (by decide) rfl (fun ls hl => ?_)
                  refine lv_iinc (v := nI (i + 1)) (lv' := [(5, .int (nI (i + 1))), (4, .int (du (xp t9 d9 w9 mk))), (8, .int (du (xp t9 d9 w9 mk))), (7, .int 0), (6, .ref q40), (0, .ref x), (1, .ref y), (2, .int (nI d)), (3, .int (nI mk))]) hx hb dX11_explained_135 hl (k := 8) rfl (nI_add _ _) (by decide) rfl (fun ls hl => ?_)
                  refine lv_goto (tgt := 26) hx hb dX11_explained_138 (by decide) ?_
                  exact W.widen (by first | omega | (simp only [List.length_nil]; omega)) (by first | omega | (simp only [List.length_nil]; omega)) (ih26 (i + 1) (xp t9 d9 w9 mk) (by omega) (by omega) (by rw [hd9, xpA_s c_47, hmkN, ← hd9, ← hq]; unfold xpM; rw [if_pos ⟨c_110, Or.inl c_116⟩]) (hxl) _  (hk97) _ _ hM hS _ (lv_sub hl [5, 6, 7, 8, 1, 0] rfl))
                · replace c_116 : ¬ du b9 = (-1) := c_116
                  rw [du_m1 (by omega)] at c_116
                  refine lv_iload hx hb dX11_explained_119 (lv_at hl 0 rfl) ?_
                  refine lv_iload hx hb dX11_explained_121 (lv_at hl 7 rfl) ?_
                  refine lv_icmp_ge (tgt := 131) hx hb dX11_explained_123 (by decide) (fun c_123 => ?_) (fun c_123 => ?_)
                  · replace c_123 : du b9 ≤ du (xp t9 d9 w9 mk) := c_123
                    rw [du_le (by omega) (by omega)] at c_123
                    refine lv_iload hx hb dX11_explained_131 (lv_at hl 7 rfl) ?_
                    refine lv_istore (lv' := [(4, .int (du b9)), (8, .int (du (xp t9 d9 w9 mk))), (7, .int 0), (6, .ref q40), (0, .ref x), (1, .ref y), (2, .int (nI d)), (3, .int (nI mk)), (5, .int (nI i))]) hx hb dX11_explained_133 hl (by decide) rfl (fun ls hl => ?_)
                    refine lv_iinc (v := nI (i + 1)) (lv' := [(5, .int (nI (i + 1))), (4, .int (du b9)), (8, .int (du (xp t9 d9 w9 mk))), (7, .int 0), (6, .ref q40), (0, .ref x), (1, .ref y), (2, .int (nI d)), (3, .int (nI mk))]) hx hb dX11_explained_135 hl (k := 8) rfl (nI_add _ _) (by decide) rfl (fun ls hl => ?_)
                    refine lv_goto (tgt := 26) hx hb dX11_explained_138 (by decide) ?_
                    exact W.widen (by first | omega | (simp only [List.length_nil]; omega)) (by first | omega | (simp only [List.length_nil]; omega)) (ih26 (i + 1) b9 (by omega) (by omega) (by rw [hd9, xpA_s c_47, hmkN, ← hd9, ← hq]; unfold xpM; rw [if_neg (fun w => by omega)]) (hb9) _  (hk97) _ _ hM hS _ (lv_sub hl [5, 6, 7, 8, 1, 0] rfl))
                  · replace c_123 : ¬ du b9 ≤ du (xp t9 d9 w9 mk) := c_123
                    rw [du_le (by omega) (by omega)] at c_123
                    refine lv_iload hx hb dX11_explained_126 (lv_at hl 0 rfl) ?_
                    refine lv_goto (tgt := 133) hx hb dX11_explained_128 (by decide) ?_
                    refine lv_istore (lv' := [(4, .int (du (xp t9 d9 w9 mk))), (8, .int (du (xp t9 d9 w9 mk))), (7, .int 0), (6, .ref q40), (0, .ref x), (1, .ref y), (2, .int (nI d)), (3, .int (nI mk)), (5, .int (nI i))]) hx hb dX11_explained_133 hl (by decide) rfl (fun ls hl => ?_)
                    refine lv_iinc (v := nI (i + 1)) (lv' := [(5, .int (nI (i + 1))), (4, .int (du (xp t9 d9 w9 mk))), (8, .int (du (xp t9 d9 w9 mk))), (7, .int 0), (6, .ref q40), (0, .ref x), (1, .ref y), (2, .int (nI d)), (3, .int (nI mk))]) hx hb dX11_explained_135 hl (k := 8) rfl (nI_add _ _) (by decide) rfl (fun ls hl => ?_)
                    refine lv_goto (tgt := 26) hx hb dX11_explained_138 (by decide) ?_
                    exact W.widen (by first | omega | (simp only [List.length_nil]; omega)) (by first | omega | (simp only [List.length_nil]; omega)) (ih26 (i + 1) (xp t9 d9 w9 mk) (by omega) (by omega) (by rw [hd9, xpA_s c_47, hmkN, ← hd9, ← hq]; unfold xpM; rw [if_pos ⟨c_110, Or.inr (by omega)⟩]) (hxl) _  (hk97) _ _ hM hS _ (lv_sub hl [5, 6, 7, 8, 1, 0] rfl))
            · replace c_53 : ¬ nI i < nI 5 := c_53
              rw [nI_ltI (by omega) (by omega)] at c_53
              rw [if_pos (by omega)] at hxs
              obtain ⟨hw9, hv5⟩ := dn_b (by omega) (by omega) c_47
              have hdc5 := dnC_s hv5
              refine lv_aload hx hb dX11_explained_56 (lv_at hl 0 rfl) ?_
              refine lv_iload hx hb dX11_explained_58 (lv_at hl 6 rfl) ?_
              refine lv_iconst (v := 5) hx hb dX11_explained_60 (by decide) ?_
              refine lv_isub hx hb dX11_explained_61 ?_
              rw [show (nI i) - 5 = nI (i - 5) from pk_sub (a := i) (b := 5) (by omega)]
              refine lv_aload_n hx hb dX11_explained_62 rfl (lv_at hl 1 rfl) ?_
              refine mq_callq (va_runS (As := [.int (nI (i - 5)), .ref x]) (rest := [.ref q40]) ⟨hx, hb, hml, hown, hts⟩ (c_X11_doneP l G A g40 (i - 5) x u9 (dnC (i - 5) u9)) (va_cwS 2 hts gX11_explained_X11_done rfl rfl rfl (by decide +kernel) ⟨by show 1 + 1 ≤ (3 + d); omega, by show 8 + (7 + 11) + 24 ≤ (80 + 28 * d); omega⟩) (mq_preS hK hZ hS hA hM (⟨yx4, by omega, Nat.le_refl _⟩) _) rfl rfl hl.1 rfl (lv_room (Nat.le_of_ble_eq_true rfl)) dX11_explained_63 ⟨by show ((xcA d u9 i) + (dnC i u9)) + ((dnC (i - 5) u9)) ≤ ((xcT d u9)); omega, by show ((4 * xcA d u9 i) + (4 * dnC i u9)) + ((4 * dnC (i - 5) u9)) ≤ ((4 * xcT d u9)); omega⟩) hS (fun r63 g63 H locs p63 hM hS => ?_)
              refine W.widen (k := ((xcA d u9 i) + (dnC i u9) + (dnC (i - 5) u9))) (n := ((4 * xcA d u9 i) + (4 * dnC i u9) + (4 * dnC (i - 5) u9))) (by omega) (by omega) ?_
              obtain ⟨q63, er, hk63, hv63⟩ := p63
              subst er
              have yx6 := hk63 _ _ yx4
              have yy6 := hk63 _ _ yy4
              have yq6 := hk63 _ _ yq
              have yq63 := hv63 _ hv5
              have hk96 : ∀ y e, f y = some e → g63 y = some e := fun y e he => hk63 _ _ (hk94 y e he)
              rw [hv5]
              refine mq_calli (va_runS (As := [.ref q40, .ref q63]) (rest := []) ⟨hx, hb, hml, hown, hts⟩ (c_X11_areSame l G A g63 q40 q63 w9 (eq_rule (i - 5) false u9)) (va_cwS 2 hts gX11_explained_X11_areSame rfl rfl rfl (by decide +kernel) ⟨by show 0 + 1 ≤ (3 + d); omega, by show 8 + (2 + 11) + 0 ≤ (80 + 28 * d); omega⟩) (mq_preS hK hZ hS hA hM (⟨yq6, yq63⟩) _) rfl rfl hl.1 rfl (lv_room (Nat.le_of_ble_eq_true rfl)) dX11_explained_66 ⟨by show ((xcA d u9 i) + (dnC i u9) + (dnC (i - 5) u9)) + 0 ≤ ((xcT d u9)); omega, by show ((4 * xcA d u9 i) + (4 * dnC i u9) + (4 * dnC (i - 5) u9)) + 0 ≤ ((4 * xcT d u9)); omega⟩) hS (fun r66 g66 H locs p66 hM hS => ?_)
              refine W.widen (k := ((xcA d u9 i) + (dnC i u9) + (dnC (i - 5) u9))) (n := ((4 * xcA d u9 i) + (4 * dnC i u9) + (4 * dnC (i - 5) u9))) (by omega) (by omega) ?_
              obtain ⟨rfl, rfl⟩ := p66
              refine lv_if_ne (tgt := 76) hx hb dX11_explained_69 (by decide) (fun c_69 => ?_) (fun c_69 => ?_)
              · replace c_69 : ¬ zb (decide (w9 = eq_rule (i - 5) false u9)) = 0 := c_69
                rw [zb_n0] at c_69
                have hmkN : mkN i u9 mk = mk := by unfold mkN; rw [if_neg (fun w => w.2 (hw9.symm.trans (of_decide_eq_true c_69)))]
                refine lv_iconst (v := 0) hx hb dX11_explained_76 (by decide) ?_
                refine lv_istore (lv' := [(7, .int 0), (6, .ref q40), (0, .ref x), (1, .ref y), (2, .int (nI d)), (3, .int (nI mk)), (4, .int (du b9)), (5, .int (nI i))]) hx hb dX11_explained_77 hl (by decide) rfl (fun ls hl => ?_)
                refine lv_aload hx hb dX11_explained_79 (lv_at hl 1 rfl) ?_
                refine lv_aload_n hx hb dX11_explained_81 rfl (lv_at hl 3 rfl) ?_
                refine lv_iload_n hx hb dX11_explained_82 rfl (lv_at hl 4 rfl) ?_
                refine lv_iconst (v := 1) hx hb dX11_explained_83 (by decide) ?_
                refine lv_isub hx hb dX11_explained_84 ?_
                rw [show (nI d) - 1 = nI d9 from by rw [hd9]; exact du_S d9]
                refine lv_iload hx hb dX11_explained_85 (lv_at hl 0 rfl) ?_
                refine lv_if_eq (tgt := 101) hx hb dX11_explained_87 (by decide) (fun c_87 => ?_) (fun c_87 => absurd c_87 (by decide))
                refine lv_iload_n hx hb dX11_explained_101 rfl (lv_at hl 5 rfl) ?_
                refine mq_calli (va_runS (As := [.ref q40, .ref y, .int (nI d9), .int (nI mk)]) (rest := []) ⟨hx, hb, hml, hown, hts⟩ (IH d9 hd9.symm l G A g63 q40 y w9 t9 mk) (va_cwS 4 hts gX11_explained_X11_explained rfl rfl rfl (by decide +kernel) ⟨by show (3 + d9) + 1 ≤ (3 + d); omega, by show 8 + (9 + 11) + (80 + 28 * d9) ≤ (80 + 28 * d); omega⟩) (mq_preS hK hZ hS hA hM (⟨yq6, yy6, hmk, by omega⟩) _) rfl rfl hl.1 rfl (lv_room (Nat.le_of_ble_eq_true rfl)) dX11_explained_102 ⟨by show ((xcA d u9 i) + (dnC i u9) + (dnC (i - 5) u9)) + ((xcT d9 w9)) ≤ ((xcT d u9)); omega, by show ((4 * xcA d u9 i) + (4 * dnC i u9) + (4 * dnC (i - 5) u9)) + ((4 * xcT d9 w9)) ≤ ((4 * xcT d u9)); omega⟩) hS (fun r102 g102 H locs p102 hM hS => ?_)
                refine W.widen (k := ((xcA d u9 i) + (dnC i u9) + (dnC (i - 5) u9) + (xcT d9 w9))) (n := ((4 * xcA d u9 i) + (4 * dnC i u9) + (4 * dnC (i - 5) u9) + (4 * xcT d9 w9))) (by omega) (by omega) ?_
                obtain ⟨hk102, rfl⟩ := p102
                have hk97 : ∀ y e, f y = some e → g102 y = some e := fun y e he => hk102 _ _ (hk96 y e he)
                have hxl := xp_lt (t := t9) (d := d9) (m := mk) (e := w9) (hmk)
                refine lv_istore (lv' := [(8, .int (du (xp t9 d9 w9 mk))), (7, .int 0), (6, .ref q40), (0, .ref x), (1, .ref y), (2, .int (nI d)), (3, .int (nI mk)), (4, .int (du b9)), (5, .int (nI i))]) hx hb dX11_explained_105 hl (by decide) rfl (fun ls hl => ?_)
                refine lv_iload hx hb dX11_explained_107 (lv_at hl 0 rfl) ?_
                refine lv_iconst (v := (-1)) hx hb dX11_explained_109 (by decide) ?_
                refine lv_icmp_eq (tgt := 131) hx hb dX11_explained_110 (by decide) (fun c_110 => ?_) (fun c_110 => ?_)
                · replace c_110 : du (xp t9 d9 w9 mk) = (-1) := c_110
                  rw [du_m1 (by omega)] at c_110
                  refine lv_iload hx hb dX11_explained_131 (lv_at hl 7 rfl) ?_
                  refine lv_istore (lv' := [(4, .int (du b9)), (8, .int (du (xp t9 d9 w9 mk))), (7, .int 0), (6, .ref q40), (0, .ref x), (1, .ref y), (2, .int (nI d)), (3, .int (nI mk)), (5, .int (nI i))]) hx hb dX11_explained_133 hl (by decide) rfl (fun ls hl => ?_)
                  refine lv_iinc (v := nI (i + 1)) (lv' := [(5, .int (nI (i + 1))), (4, .int (du b9)), (8, .int (du (xp t9 d9 w9 mk))), (7, .int 0), (6, .ref q40), (0, .ref x), (1, .ref y), (2, .int (nI d)), (3, .int (nI mk))]) hx hb dX11_explained_135 hl (k := 8) rfl (nI_add _ _) (by decide) rfl (fun ls hl => ?_)
                  refine lv_goto (tgt := 26) hx hb dX11_explained_138 (by decide) ?_
                  exact W.widen (by first | omega | (simp only [List.length_nil]; omega)) (by first | omega | (simp only [List.length_nil]; omega)) (ih26 (i + 1) b9 (by omega) (by omega) (by rw [hd9, xpA_s c_47, hmkN, ← hd9, ← hq]; unfold xpM; rw [if_neg (fun w => w.1 c_110)]) (hb9) _  (hk97) _ _ hM hS _ (lv_sub hl [5, 6, 7, 8, 1, 0] rfl))
                · replace c_110 : ¬ du (xp t9 d9 w9 mk) = (-1) := c_110
                  rw [du_m1 (by omega)] at c_110
                  refine lv_iload hx hb dX11_explained_113 (lv_at hl 7 rfl) ?_
                  refine lv_iconst (v := (-1)) hx hb dX11_explained_115 (by decide) ?_
                  refine lv_icmp_eq (tgt := 126) hx hb dX11_explained_116 (by decide) (fun c_116 => ?_) (fun c_116 => ?_)
                  · replace c_116 : du b9 = (-1) := c_116
                    rw [du_m1 (by omega)] at c_116
                    refine lv_iload hx hb dX11_explained_126 (lv_at hl 0 rfl) ?_
                    refine lv_goto (tgt := 133) hx hb dX11_explained_128 (by decide) ?_
                    refine lv_istore (lv' := [(4, .int (du (xp t9 d9 w9 mk))), (8, .int (du (xp t9 d9 w9 mk))), (7, .int 0), (6, .ref q40), (0, .ref x), (1, .ref y), (2, .int (nI d)), (3, .int (nI mk)), (5, .int (nI i))]) hx hb dX11_explained_133 hl (by decide) rfl (fun ls hl => ?_)
                    refine lv_iinc (v := nI (i + 1)) (lv' := [(5, .int (nI (i + 1))), (4, .int (du (xp t9 d9 w9 mk))), (8, .int (du (xp t9 d9 w9 mk))), (7, .int 0), (6, .ref q40), (0, .ref x), (1, .ref y), (2, .int (nI d)), (3, .int (nI mk))]) hx hb dX11_explained_135 hl (k := 8) rfl (nI_add _ _) (by decide) rfl (fun ls hl => ?_)
                    refine lv_goto (tgt := 26) hx hb dX11_explained_138 (by decide) ?_
                    exact W.widen (by first | omega | (simp only [List.length_nil]; omega)) (by first | omega | (simp only [List.length_nil]; omega)) (ih26 (i + 1) (xp t9 d9 w9 mk) (by omega) (by omega) (by rw [hd9, xpA_s c_47, hmkN, ← hd9, ← hq]; unfold xpM; rw [if_pos ⟨c_110, Or.inl c_116⟩]) (hxl) _  (hk97) _ _ hM hS _ (lv_sub hl [5, 6, 7, 8, 1, 0] rfl))
                  · replace c_116 : ¬ du b9 = (-1) := c_116
                    rw [du_m1 (by omega)] at c_116
                    refine lv_iload hx hb dX11_explained_119 (lv_at hl 0 rfl) ?_
                    refine lv_iload hx hb dX11_explained_121 (lv_at hl 7 rfl) ?_
                    refine lv_icmp_ge (tgt := 131) hx hb dX11_explained_123 (by decide) (fun c_123 => ?_) (fun c_123 => ?_)
                    · replace c_123 : du b9 ≤ du (xp t9 d9 w9 mk) := c_123
                      rw [du_le (by omega) (by omega)] at c_123
                      refine lv_iload hx hb dX11_explained_131 (lv_at hl 7 rfl) ?_
                      refine lv_istore (lv' := [(4, .int (du b9)), (8, .int (du (xp t9 d9 w9 mk))), (7, .int 0), (6, .ref q40), (0, .ref x), (1, .ref y), (2, .int (nI d)), (3, .int (nI mk)), (5, .int (nI i))]) hx hb dX11_explained_133 hl (by decide) rfl (fun ls hl => ?_)
                      refine lv_iinc (v := nI (i + 1)) (lv' := [(5, .int (nI (i + 1))), (4, .int (du b9)), (8, .int (du (xp t9 d9 w9 mk))), (7, .int 0), (6, .ref q40), (0, .ref x), (1, .ref y), (2, .int (nI d)), (3, .int (nI mk))]) hx hb dX11_explained_135 hl (k := 8) rfl (nI_add _ _) (by decide) rfl (fun ls hl => ?_)
                      refine lv_goto (tgt := 26) hx hb dX11_explained_138 (by decide) ?_
                      exact W.widen (by first | omega | (simp only [List.length_nil]; omega)) (by first | omega | (simp only [List.length_nil]; omega)) (ih26 (i + 1) b9 (by omega) (by omega) (by rw [hd9, xpA_s c_47, hmkN, ← hd9, ← hq]; unfold xpM; rw [if_neg (fun w => by omega)]) (hb9) _  (hk97) _ _ hM hS _ (lv_sub hl [5, 6, 7, 8, 1, 0] rfl))
                    · replace c_123 : ¬ du b9 ≤ du (xp t9 d9 w9 mk) := c_123
                      rw [du_le (by omega) (by omega)] at c_123
                      refine lv_iload hx hb dX11_explained_126 (lv_at hl 0 rfl) ?_
                      refine lv_goto (tgt := 133) hx hb dX11_explained_128 (by decide) ?_
                      refine lv_istore (lv' := [(4, .int (du (xp t9 d9 w9 mk))), (8, .int (du (xp t9 d9 w9 mk))), (7, .int 0), (6, .ref q40), (0, .ref x), (1, .ref y), (2, .int (nI d)), (3, .int (nI mk)), (5, .int (nI i))]) hx hb dX11_explained_133 hl (by decide) rfl (fun ls hl => ?_)
                      refine lv_iinc (v := nI (i + 1)) (lv' := [(5, .int (nI (i + 1))), (4, .int (du (xp t9 d9 w9 mk))), (8, .int (du (xp t9 d9 w9 mk))), (7, .int 0), (6, .ref q40), (0, .ref x), (1, .ref y), (2, .int (nI d)), (3, .int (nI mk))]) hx hb dX11_explained_135 hl (k := 8) rfl (nI_add _ _) (by decide) rfl (fun ls hl => ?_)
                      refine lv_goto (tgt := 26) hx hb dX11_explained_138 (by decide) ?_
                      exact W.widen (by first | omega | (simp only [List.length_nil]; omega)) (by first | omega | (simp only [List.length_nil]; omega)) (ih26 (i + 1) (xp t9 d9 w9 mk) (by omega) (by omega) (by rw [hd9, xpA_s c_47, hmkN, ← hd9, ← hq]; unfold xpM; rw [if_pos ⟨c_110, Or.inr (by omega)⟩]) (hxl) _  (hk97) _ _ hM hS _ (lv_sub hl [5, 6, 7, 8, 1, 0] rfl))
              · replace c_69 : zb (decide (w9 = eq_rule (i - 5) false u9)) = 0 := c_69
                rw [zb_0] at c_69
                have hmkN : mkN i u9 mk = mk ||| 2 ^ (i - 5) := by unfold mkN; rw [if_pos ⟨by omega, fun w => of_decide_eq_false c_69 (hw9.trans w)⟩]
                refine lv_iconst (v := 1) hx hb dX11_explained_72 (by decide) ?_
                refine lv_goto (tgt := 77) hx hb dX11_explained_73 (by decide) ?_
                refine lv_istore (lv' := [(7, .int 1), (6, .ref q40), (0, .ref x), (1, .ref y), (2, .int (nI d)), (3, .int (nI mk)), (4, .int (du b9)), (5, .int (nI i))]) hx hb dX11_explained_77 hl (by decide) rfl (fun ls hl => ?_)
                refine lv_aload hx hb dX11_explained_79 (lv_at hl 1 rfl) ?_
                refine lv_aload_n hx hb dX11_explained_81 rfl (lv_at hl 3 rfl) ?_
                refine lv_iload_n hx hb dX11_explained_82 rfl (lv_at hl 4 rfl) ?_
                refine lv_iconst (v := 1) hx hb dX11_explained_83 (by decide) ?_
                refine lv_isub hx hb dX11_explained_84 ?_
                rw [show (nI d) - 1 = nI d9 from by rw [hd9]; exact du_S d9]
                refine lv_iload hx hb dX11_explained_85 (lv_at hl 0 rfl) ?_
                refine lv_if_eq (tgt := 101) hx hb dX11_explained_87 (by decide) (fun c_87 => absurd c_87 (by decide)) (fun c_87 => ?_)
                refine lv_iload_n hx hb dX11_explained_90 rfl (lv_at hl 5 rfl) ?_
                refine lv_iconst (v := 1) hx hb dX11_explained_91 (by decide) ?_
                refine lv_iload hx hb dX11_explained_92 (lv_at hl 7 rfl) ?_
                refine lv_iconst (v := 5) hx hb dX11_explained_94 (by decide) ?_
                refine lv_isub hx hb dX11_explained_95 ?_
                rw [show (nI i) - 5 = nI (i - 5) from pk_sub (a := i) (b := 5) (by omega)]
                refine lv_ishl hx hb dX11_explained_96 ?_
                rw [show 1 <<< ((nI (i - 5)) &&& 31) = nI (2 ^ (i - 5)) from dw_shl _ (by omega)]
                refine lv_ior hx hb dX11_explained_97 ?_
                rw [show (nI mk) ||| (nI (2 ^ (i - 5))) = nI (mk ||| 2 ^ (i - 5)) from or_nI _ _]
                refine lv_goto (tgt := 102) hx hb dX11_explained_98 (by decide) ?_
                refine mq_calli (va_runS (As := [.ref q40, .ref y, .int (nI d9), .int (nI (mk ||| 2 ^ (i - 5)))]) (rest := []) ⟨hx, hb, hml, hown, hts⟩ (IH d9 hd9.symm l G A g63 q40 y w9 t9 (mk ||| 2 ^ (i - 5))) (va_cwS 4 hts gX11_explained_X11_explained rfl rfl rfl (by decide +kernel) ⟨by show (3 + d9) + 1 ≤ (3 + d); omega, by show 8 + (9 + 11) + (80 + 28 * d9) ≤ (80 + 28 * d); omega⟩) (mq_preS hK hZ hS hA hM (⟨yq6, yy6, or_lt32 hmk (by omega), by omega⟩) _) rfl rfl hl.1 rfl (lv_room (Nat.le_of_ble_eq_true rfl)) dX11_explained_102 ⟨by show ((xcA d u9 i) + (dnC i u9) + (dnC (i - 5) u9)) + ((xcT d9 w9)) ≤ ((xcT d u9)); omega, by show ((4 * xcA d u9 i) + (4 * dnC i u9) + (4 * dnC (i - 5) u9)) + ((4 * xcT d9 w9)) ≤ ((4 * xcT d u9)); omega⟩) hS (fun r102 g102 H locs p102 hM hS => ?_)
                refine W.widen (k := ((xcA d u9 i) + (dnC i u9) + (dnC (i - 5) u9) + (xcT d9 w9))) (n := ((4 * xcA d u9 i) + (4 * dnC i u9) + (4 * dnC (i - 5) u9) + (4 * xcT d9 w9))) (by omega) (by omega) ?_
                obtain ⟨hk102, rfl⟩ := p102
                have hk97 : ∀ y e, f y = some e → g102 y = some e := fun y e he => hk102 _ _ (hk96 y e he)
                have hxl := xp_lt (t := t9) (d := d9) (m := (mk ||| 2 ^ (i - 5))) (e := w9) (or_lt32 hmk (by omega))
                refine lv_istore (lv' := [(8, .int (du (xp t9 d9 w9 (mk ||| 2 ^ (i - 5))))), (7, .int 1), (6, .ref q40), (0, .ref x), (1, .ref y), (2, .int (nI d)), (3, .int (nI mk)), (4, .int (du b9)), (5, .int (nI i))]) hx hb dX11_explained_105 hl (by decide) rfl (fun ls hl => ?_)
                refine lv_iload hx hb dX11_explained_107 (lv_at hl 0 rfl) ?_
                refine lv_iconst (v := (-1)) hx hb dX11_explained_109 (by decide) ?_
                refine lv_icmp_eq (tgt := 131) hx hb dX11_explained_110 (by decide) (fun c_110 => ?_) (fun c_110 => ?_)
                · replace c_110 : du (xp t9 d9 w9 (mk ||| 2 ^ (i - 5))) = (-1) := c_110
                  rw [du_m1 (by omega)] at c_110
                  refine lv_iload hx hb dX11_explained_131 (lv_at hl 7 rfl) ?_
                  refine lv_istore (lv' := [(4, .int (du b9)), (8, .int (du (xp t9 d9 w9 (mk ||| 2 ^ (i - 5))))), (7, .int 1), (6, .ref q40), (0, .ref x), (1, .ref y), (2, .int (nI d)), (3, .int (nI mk)), (5, .int (nI i))]) hx hb dX11_explained_133 hl (by decide) rfl (fun ls hl => ?_)
                  refine lv_iinc (v := nI (i + 1)) (lv' := [(5, .int (nI (i + 1))), (4, .int (du b9)), (8, .int (du (xp t9 d9 w9 (mk ||| 2 ^ (i - 5))))), (7, .int 1), (6, .ref q40), (0, .ref x), (1, .ref y), (2, .int (nI d)), (3, .int (nI mk))]) hx hb dX11_explained_135 hl (k := 8) rfl (nI_add _ _) (by decide) rfl (fun ls hl => ?_)
                  refine lv_goto (tgt := 26) hx hb dX11_explained_138 (by decide) ?_
                  exact W.widen (by first | omega | (simp only [List.length_nil]; omega)) (by first | omega | (simp only [List.length_nil]; omega)) (ih26 (i + 1) b9 (by omega) (by omega) (by rw [hd9, xpA_s c_47, hmkN, ← hd9, ← hq]; unfold xpM; rw [if_neg (fun w => w.1 c_110)]) (hb9) _  (hk97) _ _ hM hS _ (lv_sub hl [5, 6, 7, 8, 1, 0] rfl))
                · replace c_110 : ¬ du (xp t9 d9 w9 (mk ||| 2 ^ (i - 5))) = (-1) := c_110
                  rw [du_m1 (by omega)] at c_110
                  refine lv_iload hx hb dX11_explained_113 (lv_at hl 7 rfl) ?_
                  refine lv_iconst (v := (-1)) hx hb dX11_explained_115 (by decide) ?_
                  refine lv_icmp_eq (tgt := 126) hx hb dX11_explained_116 (by decide) (fun c_116 => ?_) (fun c_116 => ?_)
                  · replace c_116 : du b9 = (-1) := c_116
                    rw [du_m1 (by omega)] at c_116
                    refine lv_iload hx hb dX11_explained_126 (lv_at hl 0 rfl) ?_
                    refine lv_goto (tgt := 133) hx hb dX11_explained_128 (by decide) ?_
                    refine lv_istore (lv' := [(4, .int (du (xp t9 d9 w9 (mk ||| 2 ^ (i - 5))))), (8, .int (du (xp t9 d9 w9 (mk ||| 2 ^ (i - 5))))), (7, .int 1), (6, .ref q40), (0, .ref x), (1, .ref y), (2, .int (nI d)), (3, .int (nI mk)), (5, .int (nI i))]) hx hb dX11_explained_133 hl (by decide) rfl (fun ls hl => ?_)
                    refine lv_iinc (v := nI (i + 1)) (lv' := [(5, .int (nI (i + 1))), (4, .int (du (xp t9 d9 w9 (mk ||| 2 ^ (i - 5))))), (8, .int (du (xp t9 d9 w9 (mk ||| 2 ^ (i - 5))))), (7, .int 1), (6, .ref q40), (0, .ref x), (1, .ref y), (2, .int (nI d)), (3, .int (nI mk))]) hx hb dX11_explained_135 hl (k := 8) rfl (nI_add _ _) (by decide) rfl (fun ls hl => ?_)
                    refine lv_goto (tgt := 26) hx hb dX11_explained_138 (by decide) ?_
                    exact W.widen (by first | omega | (simp only [List.length_nil]; omega)) (by first | omega | (simp only [List.length_nil]; omega)) (ih26 (i + 1) (xp t9 d9 w9 (mk ||| 2 ^ (i - 5))) (by omega) (by omega) (by rw [hd9, xpA_s c_47, hmkN, ← hd9, ← hq]; unfold xpM; rw [if_pos ⟨c_110, Or.inl c_116⟩]) (hxl) _  (hk97) _ _ hM hS _ (lv_sub hl [5, 6, 7, 8, 1, 0] rfl))
                  · replace c_116 : ¬ du b9 = (-1) := c_116
                    rw [du_m1 (by omega)] at c_116
                    refine lv_iload hx hb dX11_explained_119 (lv_at hl 0 rfl) ?_
                    refine lv_iload hx hb dX11_explained_121 (lv_at hl 7 rfl) ?_
                    refine lv_icmp_ge (tgt := 131) hx hb dX11_explained_123 (by decide) (fun c_123 => ?_) (fun c_123 => ?_)
                    · replace c_123 : du b9 ≤ du (xp t9 d9 w9 (mk ||| 2 ^ (i - 5))) := c_123
                      rw [du_le (by omega) (by omega)] at c_123
                      refine lv_iload hx hb dX11_explained_131 (lv_at hl 7 rfl) ?_
                      refine lv_istore (lv' := [(4, .int (du b9)), (8, .int (du (xp t9 d9 w9 (mk ||| 2 ^ (i - 5))))), (7, .int 1), (6, .ref q40), (0, .ref x), (1, .ref y), (2, .int (nI d)), (3, .int (nI mk)), (5, .int (nI i))]) hx hb dX11_explained_133 hl (by decide) rfl (fun ls hl => ?_)
                      refine lv_iinc (v := nI (i + 1)) (lv' := [(5, .int (nI (i + 1))), (4, .int (du b9)), (8, .int (du (xp t9 d9 w9 (mk ||| 2 ^ (i - 5))))), (7, .int 1), (6, .ref q40), (0, .ref x), (1, .ref y), (2, .int (nI d)), (3, .int (nI mk))]) hx hb dX11_explained_135 hl (k := 8) rfl (nI_add _ _) (by decide) rfl (fun ls hl => ?_)
                      refine lv_goto (tgt := 26) hx hb dX11_explained_138 (by decide) ?_
                      exact W.widen (by first | omega | (simp only [List.length_nil]; omega)) (by first | omega | (simp only [List.length_nil]; omega)) (ih26 (i + 1) b9 (by omega) (by omega) (by rw [hd9, xpA_s c_47, hmkN, ← hd9, ← hq]; unfold xpM; rw [if_neg (fun w => by omega)]) (hb9) _  (hk97) _ _ hM hS _ (lv_sub hl [5, 6, 7, 8, 1, 0] rfl))
                    · replace c_123 : ¬ du b9 ≤ du (xp t9 d9 w9 (mk ||| 2 ^ (i - 5))) := c_123
                      rw [du_le (by omega) (by omega)] at c_123
                      refine lv_iload hx hb dX11_explained_126 (lv_at hl 0 rfl) ?_
                      refine lv_goto (tgt := 133) hx hb dX11_explained_128 (by decide) ?_
                      refine lv_istore (lv' := [(4, .int (du (xp t9 d9 w9 (mk ||| 2 ^ (i - 5))))), (8, .int (du (xp t9 d9 w9 (mk ||| 2 ^ (i - 5))))), (7, .int 1), (6, .ref q40), (0, .ref x), (1, .ref y), (2, .int (nI d)), (3, .int (nI mk)), (5, .int (nI i))]) hx hb dX11_explained_133 hl (by decide) rfl (fun ls hl => ?_)
                      refine lv_iinc (v := nI (i + 1)) (lv' := [(5, .int (nI (i + 1))), (4, .int (du (xp t9 d9 w9 (mk ||| 2 ^ (i - 5))))), (8, .int (du (xp t9 d9 w9 (mk ||| 2 ^ (i - 5))))), (7, .int 1), (6, .ref q40), (0, .ref x), (1, .ref y), (2, .int (nI d)), (3, .int (nI mk))]) hx hb dX11_explained_135 hl (k := 8) rfl (nI_add _ _) (by decide) rfl (fun ls hl => ?_)
                      refine lv_goto (tgt := 26) hx hb dX11_explained_138 (by decide) ?_
                      exact W.widen (by first | omega | (simp only [List.length_nil]; omega)) (by first | omega | (simp only [List.length_nil]; omega)) (ih26 (i + 1) (xp t9 d9 w9 (mk ||| 2 ^ (i - 5))) (by omega) (by omega) (by rw [hd9, xpA_s c_47, hmkN, ← hd9, ← hq]; unfold xpM; rw [if_pos ⟨c_110, Or.inr (by omega)⟩]) (hxl) _  (hk97) _ _ hM hS _ (lv_sub hl [5, 6, 7, 8, 1, 0] rfl))
  refine mq_calli (va_runS (As := [.ref x, .ref y]) (rest := []) ⟨hx, hb, hml, hown, hts⟩ (c_X11_areSame l G A f x y u9 t9) (va_cwS 2 hts gX11_explained_X11_areSame rfl rfl rfl (by decide +kernel) ⟨by show 0 + 1 ≤ (3 + d); omega, by show 8 + (2 + 11) + 0 ≤ (80 + 28 * d); omega⟩) (mq_preS hK hZ hS hA hM (⟨h0, h1⟩) _) rfl rfl hl.1 rfl (lv_room (Nat.le_of_ble_eq_true rfl)) dX11_explained_2 ⟨by show 0 + 0 ≤ ((xcT d u9)); omega, by show 0 + 0 ≤ ((4 * xcT d u9)); omega⟩) hS (fun r2 g2 H locs p2 hM hS => ?_)
  refine W.widen (k := 0) (n := 0) (Nat.le_of_ble_eq_true rfl) (Nat.le_of_ble_eq_true rfl) ?_
  obtain ⟨rfl, rfl⟩ := p2
  refine lv_if_eq (tgt := 20) hx hb dX11_explained_5 (by decide) (fun c_5 => ?_) (fun c_5 => ?_)
  · replace c_5 : zb (decide (u9 = t9)) = 0 := c_5
    rw [zb_0] at c_5
    refine lv_iconst (v := (-1)) hx hb dX11_explained_20 (by decide) ?_
    refine lv_istore (lv' := [(4, .int (-1)), (0, .ref x), (1, .ref y), (2, .int (nI d)), (3, .int (nI mk))]) hx hb dX11_explained_21 hl (by decide) rfl (fun ls hl => ?_)
    refine lv_iconst (v := 0) hx hb dX11_explained_23 (by decide) ?_
    refine lv_istore (lv' := [(5, .int 0), (4, .int (-1)), (0, .ref x), (1, .ref y), (2, .int (nI d)), (3, .int (nI mk))]) hx hb dX11_explained_24 hl (by decide) rfl (fun ls hl => ?_)
    rw [show (-1 : Int32) = du 0 from rfl] at hl
    exact W.widen (by first | omega | (simp only [List.length_nil]; omega)) (by first | omega | (simp only [List.length_nil]; omega)) (K26 _ 0 0 (Nat.lt_succ_self _) (Nat.zero_le _) (by rw [xpA_0]; unfold xpB; rw [if_neg (of_decide_eq_false c_5)]) (by omega) _  (fun _ _ he => he) _ _ hM hS _ (lv_sub hl [2, 3, 4, 5, 1, 0] rfl))
  · replace c_5 : ¬ zb (decide (u9 = t9)) = 0 := c_5
    rw [zb_n0] at c_5
    refine lv_bipush (v := 100) hx hb dX11_explained_8 (by decide) ?_
    refine lv_iload_n hx hb dX11_explained_10 rfl (lv_at hl 3 rfl) ?_
    refine mq_calli (va_runS (As := [.int (nI mk)]) (rest := [.int 100]) ⟨hx, hb, hml, hown, hts⟩ (c_J6_bitCount_0f7a4 l G A f (nI mk)) (va_cwS 1 hts gX11_explained_J6_bitCount_0f7a4 rfl rfl rfl (by decide +kernel) ⟨by show 0 + 1 ≤ (3 + d); omega, by show 8 + (1 + 11) + 0 ≤ (80 + 28 * d); omega⟩) (mq_preS hK hZ hS hA hM (trivial) _) rfl rfl hl.1 rfl (lv_room (Nat.le_of_ble_eq_true rfl)) dX11_explained_11 ⟨by show 0 + 0 ≤ ((xcT d u9)); omega, by show 0 + 0 ≤ ((4 * xcT d u9)); omega⟩) hS (fun r11 g11 H locs p11 hM hS => ?_)
    refine W.widen (k := 0) (n := 0) (Nat.le_of_ble_eq_true rfl) (Nat.le_of_ble_eq_true rfl) ?_
    obtain ⟨rfl, rfl⟩ := p11
    rw [j_bc_ok mk hmk]
    refine lv_imul hx hb dX11_explained_14 ?_
    rw [show 100 * (nI (pcn mk)) = nI (100 * (pcn mk)) from pk_mul _ _]
    refine lv_iload_n hx hb dX11_explained_15 rfl (lv_at hl 3 rfl) ?_
    refine lv_iadd hx hb dX11_explained_16 ?_
    rw [show (nI (100 * (pcn mk))) + (nI mk) = nI ((100 * (pcn mk)) + mk) from nI_add _ _]
    refine lv_goto (tgt := 21) hx hb dX11_explained_17 (by decide) ?_
    refine lv_istore (lv' := [(4, .int (nI ((100 * (pcn mk)) + mk))), (0, .ref x), (1, .ref y), (2, .int (nI d)), (3, .int (nI mk))]) hx hb dX11_explained_21 hl (by decide) rfl (fun ls hl => ?_)
    refine lv_iconst (v := 0) hx hb dX11_explained_23 (by decide) ?_
    refine lv_istore (lv' := [(5, .int 0), (4, .int (nI ((100 * (pcn mk)) + mk))), (0, .ref x), (1, .ref y), (2, .int (nI d)), (3, .int (nI mk))]) hx hb dX11_explained_24 hl (by decide) rfl (fun ls hl => ?_)
    rw [← du_S ((100 * (pcn mk)) + mk)] at hl
    exact W.widen (by first | omega | (simp only [List.length_nil]; omega)) (by first | omega | (simp only [List.length_nil]; omega)) (K26 _ 0 (100 * pcn mk + mk + 1) (Nat.lt_succ_self _) (Nat.zero_le _) (by rw [xpA_0]; unfold xpB; rw [if_pos (of_decide_eq_true c_5)]) (by have := pcn_le mk; omega) _  (fun _ _ he => he) _ _ hM hS _ (lv_sub hl [2, 3, 4, 5, 1, 0] rfl))

theorem c_X11_explained : ∀ (d : Nat) (l : Launch) (G : mq_G) (A : Nat → Prop) (f : mq_F) (x y : Nat) (u9 t9 : eqT) (mk : Nat), Met l yX11_explained wsX11_explained ({ frames := (3 + d), cells := xcT d u9, slots := 4 * xcT d u9, locals := (80 + 28 * d) } : Room) (mq_Pc G A f (f x = some (cIn G 4 (eqF u9)) ∧ f y = some (cIn G 4 (eqF t9)) ∧ mk < 32 ∧ d ≤ 3) [.ref x, .ref y, .int (nI d), .int (nI mk)]) (mq_Qi G A (fun r g => (∀ y e, f y = some e → g y = some e) ∧ r = du (xp t9 d u9 mk))) (xcT d u9) (4 * xcT d u9) A := by
  intro d
  induction d with
  | zero => exact fun l G A f => c_X11_explained_open l G A f 0 (fun d9 h => absurd h (by omega))
  | succ d ih =>
    refine fun l G A f => c_X11_explained_open l G A f (d + 1) ?_
    intro d9 h
    obtain rfl : d9 = d := by omega
    exact ih

set_option maxHeartbeats 4000000 in
set_option maxRecDepth 100000 in
theorem c_X11_explain (l : Launch) (G : mq_G) (A : Nat → Prop) (f : mq_F) (ad : AD) (S : AT) (X : CX) (S2 : AT) (Y : MX) (O : OX) (T : Nat) (ui : Int32) : Met l yX11_explain wsX11_explain ({ frames := 10, cells := 1130, slots := 4520, locals := 192 } : Room) (mq_Pc G A f (WR G f ad S X S2 Y O ∧ mOK S2 Y T) [.ref (ad 20 0 0), .int ui]) (mq_Qi G A (fun r g => ∃ c9, spExpl S2 ui = (c9, r) ∧ WR G g ad S X S2 (yThr Y (nI c9)) O)) 1130 4520 A := by
  refine Met.ofW (cc := cX11_explain) (maxL := 3) (ret := (some .int)) (by decide) rfl ?_
  intro p e s m args below meth c s₁ B hml hv
  obtain ⟨rfl, ⟨hK, hZ, hM, hA⟩, hp⟩ := hv
  have hx := B.exec
  have hb := B.bytes
  have hr := B.returns
  have hts := atoms_spec (ws := wsX11_explain) B.pre
  have hown : s.vm.findClass RX11 = some m.cls := findClass_of_methodNamed B.named
  have hlocks := B.notSynchronized
  have hS : va_S A s.heap s.heap [] := va_S.rf
  have hl := lv_entry ([.ref (ad 20 0 0), .int ui]) (n := 3) (Nat.le_of_ble_eq_true rfl)
  rw [lg_entry_eq]
  generalize (lg_sl ([.ref (ad 20 0 0), .int ui]) ++ List.replicate (3 - (lg_sl ([.ref (ad 20 0 0), .int ui])).length) Slot.unset).toArray = ls at hl ⊢
  have hl : lv_has ls 3 [(0, .ref (ad 20 0 0)), (1, .int ui)] := hl
  have w0 := hts (.fieldLink RX11 19 "TutorlightModel" "thrown" "I") (List.mem_of_getElem? (i := 1) rfl)
  have w1 := hts (.fieldLink RX11 16 "TutorlightModel" "learners" "Ljava/util/ArrayList;") (List.mem_of_getElem? (i := 2) rfl)
  have w2 := hts (.classLink RX11 46 "TutorlightModel$Learner") (List.mem_of_getElem? (i := 3) rfl)
  have w3 := hts (.fieldLink RX11 206 "TutorlightModel$Learner" "after" "[I") (List.mem_of_getElem? (i := 4) rfl)
  have w4 := hts (.fieldLink RX11 203 "TutorlightModel$Learner" "before" "[I") (List.mem_of_getElem? (i := 5) rfl)
  have nX11 : ∀ w ∈ wsX110, w ∈ wsX11_explain := fun _ h => List.mem_cons_of_mem _ (List.mem_append_left _ (List.mem_append_left _ (List.mem_append_left _ (List.mem_append_left _ (List.mem_append_right _ h)))))
  have nX9 : ∀ w ∈ wsX90, w ∈ wsX11_explain := fun _ h => List.mem_cons_of_mem _ (List.mem_append_left _ (List.mem_append_left _ (List.mem_append_left _ (List.mem_append_right _ h))))
  obtain ⟨hR, hO⟩ := hp
  obtain ⟨⟨X9, ⟨hn, hl4, hd2, hT⟩, hsk, hma, hdc, hle, -⟩, ⟨hns, hnc⟩, ⟨hls, hlc⟩, hac, hmc⟩ := id hO
  have y20_296 := hR.1 _ _ _ _ (t20)
  refine lv_aload_n hx hb dX11_explain_0 rfl (lv_at hl 0 rfl) ?_
  refine lv_iconst (v := 0) hx hb dX11_explain_1 (by decide) ?_
  refine mq_put (ci := 16) (v := .int 0) (ty := .int) (C := RX11) (T := TX11) (N := 4) (fs' := [.int 0, .int (nI (aD S2)), .ref (ad 21 0 0), .ref (ad 23 0 0)]) hx hb hts nX11 tyX11 tyX11_ok nmX11 hown hK hM hS y20_296 rfl 0 (by decide) w0 (fun _ h9 => h9) rfl (by decide +kernel) rfl rfl (Nat.le_of_ble_eq_true rfl) dX11_explain_2 rfl (fun f_1 H locs e_2 hM hS => ?_)
  have h_3 : f_1 (ad 20 0 0) = some (.inr (16, [.int 0, .int (nI (aD S2)), .ref (ad 21 0 0), .ref (ad 23 0 0)])) := mq_s e_2
  have hR1 := WR_yt hR e_2
  refine lv_aload_n hx hb dX11_explain_5 rfl (lv_at hl 0 rfl) ?_
  have y23_289 := hR1.1 _ _ _ _ (t23)
  refine lv_aload_n hx hb dX11_explain_6 rfl (lv_at hl 0 rfl) ?_
  refine lv_iload_n hx hb dX11_explain_7 rfl (lv_at hl 1 rfl) ?_
  refine mq_calli (va_runV (As := [.int ui]) (rest := [.ref (ad 20 0 0)]) ⟨hx, hb, hml, hown, hts⟩ (c_X11_noLearner l G A f_1 (ad 20 0 0) (ad 23 0 0) ui 0 (nI (aD S2)) (ad 21 0 0) (lsD G (yL Y).2 (ad 24 0 0)) (aL S2) (yL Y).1) (cwV 1 hts gX11_explain_X11_noLearner rfl rfl rfl (by decide +kernel) ⟨Nat.le_of_ble_eq_true rfl, Nat.le_of_ble_eq_true rfl⟩) (mq_preV hK hZ hS hA hM (q := (RX11, TX11, 4)) h_3 rfl (⟨h_3, y23_289, by omega⟩) _) rfl rfl hl.1 rfl (lv_room (Nat.le_of_ble_eq_true rfl)) dX11_explain_8 ⟨Nat.le_of_ble_eq_true rfl, Nat.le_of_ble_eq_true rfl⟩) hS (fun r8 g8 H locs p8 hM hS => ?_)
  refine W.widen (k := 0) (n := 0) (Nat.le_of_ble_eq_true rfl) (Nat.le_of_ble_eq_true rfl) ?_
  obtain ⟨rfl, rfl⟩ := p8
  refine lv_iconst (v := 1) hx hb dX11_explain_11 (by decide) ?_
  refine mq_calli (va_runV (As := [.int (zb (!vI ui (aL S2))), .int 1]) (rest := []) ⟨hx, hb, hml, hown, hts⟩ (c_X11_fails l G A f_1 (ad 20 0 0) (!vI ui (aL S2)) 1 0 (nI (aD S2)) (ad 21 0 0) (ad 23 0 0)) (cwV 2 hts gX11_explain_X11_fails rfl rfl rfl (by decide +kernel) ⟨Nat.le_of_ble_eq_true rfl, Nat.le_of_ble_eq_true rfl⟩) (mq_preV hK hZ hS hA hM (q := (RX11, TX11, 4)) h_3 rfl (h_3) _) rfl rfl hl.1 rfl (lv_room (Nat.le_of_ble_eq_true rfl)) dX11_explain_12 ⟨Nat.le_of_ble_eq_true rfl, Nat.le_of_ble_eq_true rfl⟩) hS (fun r12 g12 H locs p12 hM hS => ?_)
  refine W.widen (k := 0) (n := 0) (Nat.le_of_ble_eq_true rfl) (Nat.le_of_ble_eq_true rfl) ?_
  refine lv_if_ne (tgt := 48) hx hb dX11_explain_15 (by decide) (fun c_15 => ?_) (fun c_15 => ?_)
  · obtain ⟨hv9, hg⟩ := fl_n p12 c_15
    refine lv_iconst (v := 0) hx hb dX11_explain_48 (by decide) ?_
    refine W.widen (k := 1130) (n := 4520) (Nat.le_of_ble_eq_true rfl) (Nat.le_of_ble_eq_true rfl) ?_
    exact mq_iret (v := 0) hx hb hr hlocks hM hS (⟨1, spL_n (fun q => absurd (vI_iff.mpr q) (by rw [hv9]; decide)), by have q9 := WR_yt hR1 hg; exact q9⟩) dX11_explain_49
  · obtain ⟨hv9, rfl⟩ := fl_y h_3 p12 (by decide) c_15
    obtain ⟨j, hj, rfl⟩ := vI_ex1 hv9
    have hcl : (yL Y).2 ≠ 0 := by omega
    have y123_290 := hR1.1 _ _ _ _ (t123 hcl)
    have y24_291 := hR1.1 _ _ _ _ (t24 hcl)
    have y27_292 := hR1.1 _ _ _ _ (t27 (j := j) hj)
    refine lv_aload_n hx hb dX11_explain_18 rfl (lv_at hl 0 rfl) ?_
    refine lv_aload_n hx hb dX11_explain_19 rfl (lv_at hl 0 rfl) ?_
    refine mq_get (ci := 16) (v := .ref (ad 23 0 0)) (C := RX11) (T := TX11) (N := 4) hx hb hts nX11 hown hK hM h_3 rfl 3 (by decide) w1 (fun _ h9 => h9) rfl dX11_explain_20 ?_
    refine lv_iload_n hx hb dX11_explain_23 rfl (lv_at hl 1 rfl) ?_
    refine mq_callq (va_runV (As := [.int (nI j)]) (rest := [.ref (ad 20 0 0)]) ⟨hx, hb, hml, hown, hts⟩ (c_Jx4a65c_get_915e3 l G A f_1 (ad 23 0 0) (yL Y).1 (ad 24 0 0) (yL Y).2 (aL S2) j (fun i => ad 27 i 0)) (cwV 1 hts gX11_explain_Jx4a65c_get_915e3 rfl rfl rfl (by decide +kernel) ⟨Nat.le_of_ble_eq_true rfl, Nat.le_of_ble_eq_true rfl⟩) (mq_preV hK hZ hS hA hM (q := (RJx4a65c, TJx4a65c, 3)) y123_290 rfl (⟨y123_290, y24_291, hj, hls, by omega⟩) _) rfl rfl hl.1 rfl (lv_room (Nat.le_of_ble_eq_true rfl)) dX11_explain_24 ⟨Nat.le_of_ble_eq_true rfl, Nat.le_of_ble_eq_true rfl⟩) hS (fun r24 g24 H locs p24 hM hS => ?_)
    refine W.widen (k := 0) (n := 0) (Nat.le_of_ble_eq_true rfl) (Nat.le_of_ble_eq_true rfl) ?_
    obtain ⟨rfl, rfl⟩ := p24
    refine mq_castG hx hb hown w2 (mq_recv hK hM y27_292 rfl) dX11_explain_27 ?_
    refine mq_get (ci := 14) (v := va_rf (oMap (lWs (aE S2 j)) (ad 37 j 0))) (C := RX9) (T := TX9) (N := 8) hx hb hts nX9 hown hK hM y27_292 rfl 7 (by decide) w3 (fun _ h9 => h9) rfl dX11_explain_30 ?_
    refine mq_ifnonnullq (tgt := 40) hx hb dX11_explain_33 (by decide) (fun c_33 => ?_) (fun a9 c_33 => ?_)
    · replace c_33 := oMap_none c_33
      refine lv_iconst (v := 1) hx hb dX11_explain_36 (by decide) ?_
      refine lv_goto (tgt := 41) hx hb dX11_explain_37 (by decide) ?_
      refine lv_iconst (v := 2) hx hb dX11_explain_41 (by decide) ?_
      refine mq_calli (va_runV (As := [.int 1, .int 2]) (rest := []) ⟨hx, hb, hml, hown, hts⟩ (c_X11_fails l G A f_1 (ad 20 0 0) true 2 0 (nI (aD S2)) (ad 21 0 0) (ad 23 0 0)) (cwV 2 hts gX11_explain_X11_fails rfl rfl rfl (by decide +kernel) ⟨Nat.le_of_ble_eq_true rfl, Nat.le_of_ble_eq_true rfl⟩) (mq_preV hK hZ hS hA hM (q := (RX11, TX11, 4)) h_3 rfl (h_3) _) rfl rfl hl.1 rfl (lv_room (Nat.le_of_ble_eq_true rfl)) dX11_explain_42 ⟨Nat.le_of_ble_eq_true rfl, Nat.le_of_ble_eq_true rfl⟩) hS (fun r42 g42 H locs p42 hM hS => ?_)
      refine W.widen (k := 0) (n := 0) (Nat.le_of_ble_eq_true rfl) (Nat.le_of_ble_eq_true rfl) ?_
      obtain ⟨hg, hr9⟩ := p42
      rw [hr9, show zb (decide (fT true 0 2 ≠ 0)) = 1 from by decide]
      refine lv_if_eq (tgt := 50) hx hb dX11_explain_45 (by decide) (fun c_45 => absurd c_45 (by decide)) (fun c_45 => ?_)
      refine lv_iconst (v := 0) hx hb dX11_explain_48 (by decide) ?_
      refine W.widen (k := 1130) (n := 4520) (Nat.le_of_ble_eq_true rfl) (Nat.le_of_ble_eq_true rfl) ?_
      exact mq_iret (v := 0) hx hb hr hlocks hM hS (⟨2, (spL_y hj hl4).trans (by rw [c_33]; rfl), by have q9 := WR_yt hR1 hg; exact q9⟩) dX11_explain_49
    · obtain ⟨w9, c_33⟩ := oMap_some c_33
      refine lv_iconst (v := 0) hx hb dX11_explain_40 (by decide) ?_
      refine lv_iconst (v := 2) hx hb dX11_explain_41 (by decide) ?_
      refine mq_calli (va_runV (As := [.int 0, .int 2]) (rest := []) ⟨hx, hb, hml, hown, hts⟩ (c_X11_fails l G A f_1 (ad 20 0 0) false 2 0 (nI (aD S2)) (ad 21 0 0) (ad 23 0 0)) (cwV 2 hts gX11_explain_X11_fails rfl rfl rfl (by decide +kernel) ⟨Nat.le_of_ble_eq_true rfl, Nat.le_of_ble_eq_true rfl⟩) (mq_preV hK hZ hS hA hM (q := (RX11, TX11, 4)) h_3 rfl (h_3) _) rfl rfl hl.1 rfl (lv_room (Nat.le_of_ble_eq_true rfl)) dX11_explain_42 ⟨Nat.le_of_ble_eq_true rfl, Nat.le_of_ble_eq_true rfl⟩) hS (fun r42 g42 H locs p42 hM hS => ?_)
      refine W.widen (k := 0) (n := 0) (Nat.le_of_ble_eq_true rfl) (Nat.le_of_ble_eq_true rfl) ?_
      obtain ⟨hg, hr9⟩ := p42
      obtain rfl := fl_0 h_3 hg
      rw [hr9, show zb (decide (fT false 0 2 ≠ 0)) = 0 from by decide]
      refine lv_if_eq (tgt := 50) hx hb dX11_explain_45 (by decide) (fun c_45 => ?_) (fun c_45 => absurd c_45 (by decide))
      refine lv_aload_n hx hb dX11_explain_50 rfl (lv_at hl 0 rfl) ?_
      refine mq_get (ci := 16) (v := .ref (ad 23 0 0)) (C := RX11) (T := TX11) (N := 4) hx hb hts nX11 hown hK hM h_3 rfl 3 (by decide) w1 (fun _ h9 => h9) rfl dX11_explain_51 ?_
      refine lv_iload_n hx hb dX11_explain_54 rfl (lv_at hl 1 rfl) ?_
      refine mq_callq (va_runV (As := [.int (nI j)]) (rest := []) ⟨hx, hb, hml, hown, hts⟩ (c_Jx4a65c_get_915e3 l G A f_1 (ad 23 0 0) (yL Y).1 (ad 24 0 0) (yL Y).2 (aL S2) j (fun i => ad 27 i 0)) (cwV 1 hts gX11_explain_Jx4a65c_get_915e3 rfl rfl rfl (by decide +kernel) ⟨Nat.le_of_ble_eq_true rfl, Nat.le_of_ble_eq_true rfl⟩) (mq_preV hK hZ hS hA hM (q := (RJx4a65c, TJx4a65c, 3)) y123_290 rfl (⟨y123_290, y24_291, hj, hls, by omega⟩) _) rfl rfl hl.1 rfl (lv_room (Nat.le_of_ble_eq_true rfl)) dX11_explain_55 ⟨Nat.le_of_ble_eq_true rfl, Nat.le_of_ble_eq_true rfl⟩) hS (fun r55 g55 H locs p55 hM hS => ?_)
      refine W.widen (k := 0) (n := 0) (Nat.le_of_ble_eq_true rfl) (Nat.le_of_ble_eq_true rfl) ?_
      obtain ⟨rfl, rfl⟩ := p55
      refine mq_castG hx hb hown w2 (mq_recv hK hM y27_292 rfl) dX11_explain_58 ?_
      refine mq_get (ci := 14) (v := va_rf (oMap (lWs (aE S2 j)) (ad 36 j 0))) (C := RX9) (T := TX9) (N := 8) hx hb hts nX9 hown hK hM y27_292 rfl 6 (by decide) w4 (fun _ h9 => h9) rfl dX11_explain_61 ?_
      rw [show oMap (lWs (aE S2 j)) (ad 36 j 0) = some (ad 36 j 0) from by rw [c_33]; rfl]
      refine lv_aload_n hx hb dX11_explain_64 rfl (lv_at hl 0 rfl) ?_
      refine mq_get (ci := 16) (v := .ref (ad 23 0 0)) (C := RX11) (T := TX11) (N := 4) hx hb hts nX11 hown hK hM h_3 rfl 3 (by decide) w1 (fun _ h9 => h9) rfl dX11_explain_65 ?_
      refine lv_iload_n hx hb dX11_explain_68 rfl (lv_at hl 1 rfl) ?_
      refine mq_callq (va_runV (As := [.int (nI j)]) (rest := [.ref (ad 36 j 0)]) ⟨hx, hb, hml, hown, hts⟩ (c_Jx4a65c_get_915e3 l G A f_1 (ad 23 0 0) (yL Y).1 (ad 24 0 0) (yL Y).2 (aL S2) j (fun i => ad 27 i 0)) (cwV 1 hts gX11_explain_Jx4a65c_get_915e3 rfl rfl rfl (by decide +kernel) ⟨Nat.le_of_ble_eq_true rfl, Nat.le_of_ble_eq_true rfl⟩) (mq_preV hK hZ hS hA hM (q := (RJx4a65c, TJx4a65c, 3)) y123_290 rfl (⟨y123_290, y24_291, hj, hls, by omega⟩) _) rfl rfl hl.1 rfl (lv_room (Nat.le_of_ble_eq_true rfl)) dX11_explain_69 ⟨Nat.le_of_ble_eq_true rfl, Nat.le_of_ble_eq_true rfl⟩) hS (fun r69 g69 H locs p69 hM hS => ?_)
      refine W.widen (k := 0) (n := 0) (Nat.le_of_ble_eq_true rfl) (Nat.le_of_ble_eq_true rfl) ?_
      obtain ⟨rfl, rfl⟩ := p69
      refine mq_castG hx hb hown w2 (mq_recv hK hM y27_292 rfl) dX11_explain_72 ?_
      refine mq_get (ci := 14) (v := va_rf (oMap (lWs (aE S2 j)) (ad 37 j 0))) (C := RX9) (T := TX9) (N := 8) hx hb hts nX9 hown hK hM y27_292 rfl 7 (by decide) w3 (fun _ h9 => h9) rfl dX11_explain_75 ?_
      rw [show oMap (lWs (aE S2 j)) (ad 37 j 0) = some (ad 37 j 0) from by rw [c_33]; rfl]
      refine lv_iconst (v := 3) hx hb dX11_explain_78 (by decide) ?_
      have hx3 := xcT_3 w9.1
      have hx4 := xp_lt (t := w9.2) (d := 3) (m := 0) (e := w9.1) (by decide)
      have hsk := xp_sk (t := w9.2) (e := w9.1)
      have y36_293 := hR1.1 _ _ _ _ (t36 (j := j) hj c_33)
      have y37_294 := hR1.1 _ _ _ _ (t37 (j := j) hj c_33)
      refine lv_iconst (v := 0) hx hb dX11_explain_79 (by decide) ?_
      refine mq_calli (va_runS (As := [.ref (ad 36 j 0), .ref (ad 37 j 0), .int 3, .int 0]) (rest := []) ⟨hx, hb, hml, hown, hts⟩ (c_X11_explained 3 l G A f_1 (ad 36 j 0) (ad 37 j 0) w9.1 w9.2 0) (va_cwS 4 hts gX11_explain_X11_explained rfl rfl rfl (by decide +kernel) ⟨Nat.le_of_ble_eq_true rfl, Nat.le_of_ble_eq_true rfl⟩) (mq_preS hK hZ hS hA hM (⟨y36_293, y37_294, by decide, by decide⟩) _) rfl rfl hl.1 rfl (lv_room (Nat.le_of_ble_eq_true rfl)) dX11_explain_80 ⟨by show 0 + ((xcT 3 w9.1)) ≤ 1130; omega, by show 0 + ((4 * xcT 3 w9.1)) ≤ 4520; omega⟩) hS (fun r80 g80 H locs p80 hM hS => ?_)
      refine W.widen (k := ((xcT 3 w9.1))) (n := ((4 * xcT 3 w9.1))) (by omega) (by omega) ?_
      obtain ⟨hk80, rfl⟩ := p80
      have hR8 := RR.mono hR1 hk80
      have y20_295 := hR8.1 _ _ _ _ (t20)
      refine lv_istore_n (lv' := [(2, .int (du (xp w9.2 3 w9.1 0))), (0, .ref (ad 20 0 0)), (1, .int (nI j))]) hx hb dX11_explain_83 rfl hl (by decide) rfl (fun ls hl => ?_)
      refine lv_aload_n hx hb dX11_explain_84 rfl (lv_at hl 1 rfl) ?_
      refine lv_iload_n hx hb dX11_explain_85 rfl (lv_at hl 0 rfl) ?_
      refine lv_iconst (v := (-1)) hx hb dX11_explain_86 (by decide) ?_
      refine lv_icmp_ne (tgt := 94) hx hb dX11_explain_87 (by decide) (fun c_87 => ?_) (fun c_87 => ?_)
      · replace c_87 : ¬ du (xp w9.2 3 w9.1 0) = (-1) := c_87
        rw [du_m1 (by omega)] at c_87
        refine lv_iconst (v := 0) hx hb dX11_explain_94 (by decide) ?_
        refine lv_iconst (v := 3) hx hb dX11_explain_95 (by decide) ?_
        refine mq_calli (va_runV (As := [.int 0, .int 3]) (rest := []) ⟨hx, hb, hml, hown, hts⟩ (c_X11_fails l G A g80 (ad 20 0 0) false 3 0 (nI (aD S2)) (ad 21 0 0) (ad 23 0 0)) (cwV 2 hts gX11_explain_X11_fails rfl rfl rfl (by decide +kernel) ⟨Nat.le_of_ble_eq_true rfl, Nat.le_of_ble_eq_true rfl⟩) (mq_preV hK hZ hS hA hM (q := (RX11, TX11, 4)) y20_295 rfl (y20_295) _) rfl rfl hl.1 rfl (lv_room (Nat.le_of_ble_eq_true rfl)) dX11_explain_96 ⟨by show ((xcT 3 w9.1)) + 0 ≤ 1130; omega, by show ((4 * xcT 3 w9.1)) + 0 ≤ 4520; omega⟩) hS (fun r96 g96 H locs p96 hM hS => ?_)
        refine W.widen (k := ((xcT 3 w9.1))) (n := ((4 * xcT 3 w9.1))) (by omega) (by omega) ?_
        obtain ⟨hg, hr9⟩ := p96
        obtain rfl := fl_0 y20_295 hg
        rw [hr9, show zb (decide (fT false 0 3 ≠ 0)) = 0 from by decide]
        refine lv_if_eq (tgt := 106) hx hb dX11_explain_99 (by decide) (fun c_99 => ?_) (fun c_99 => absurd c_99 (by decide))
        refine lv_iload_n hx hb dX11_explain_106 rfl (lv_at hl 0 rfl) ?_
        rw [du_nI c_87]
        refine lv_bipush (v := 100) hx hb dX11_explain_107 (by decide) ?_
        refine lv_irem hx hb dX11_explain_109 (by decide) ?_
        rw [show (nI (xp w9.2 3 w9.1 0 - 1)) - (nI (xp w9.2 3 w9.1 0 - 1)) / 100 * 100 = nI ((xp w9.2 3 w9.1 0 - 1) % 100) from pk_rem (a := xp w9.2 3 w9.1 0 - 1) (d := 100) (by omega) (by omega) (by omega)]
        refine W.widen (k := 1130) (n := 4520) (by omega) (by omega) ?_
        exact mq_iret (v := nI ((xp w9.2 3 w9.1 0 - 1) % 100)) hx hb hr hlocks hM hS (⟨0, (spL_y hj hl4).trans (by rw [c_33]; exact (if_neg (fun q => c_87 (hsk.1.mpr q))).trans (by rw [hsk.2 c_87])), hR8⟩) dX11_explain_110
      · replace c_87 : du (xp w9.2 3 w9.1 0) = (-1) := c_87
        rw [du_m1 (by omega)] at c_87
        refine lv_iconst (v := 1) hx hb dX11_explain_90 (by decide) ?_
        refine lv_goto (tgt := 95) hx hb dX11_explain_91 (by decide) ?_
        refine lv_iconst (v := 3) hx hb dX11_explain_95 (by decide) ?_
        refine mq_calli (va_runV (As := [.int 1, .int 3]) (rest := []) ⟨hx, hb, hml, hown, hts⟩ (c_X11_fails l G A g80 (ad 20 0 0) true 3 0 (nI (aD S2)) (ad 21 0 0) (ad 23 0 0)) (cwV 2 hts gX11_explain_X11_fails rfl rfl rfl (by decide +kernel) ⟨Nat.le_of_ble_eq_true rfl, Nat.le_of_ble_eq_true rfl⟩) (mq_preV hK hZ hS hA hM (q := (RX11, TX11, 4)) y20_295 rfl (y20_295) _) rfl rfl hl.1 rfl (lv_room (Nat.le_of_ble_eq_true rfl)) dX11_explain_96 ⟨by show ((xcT 3 w9.1)) + 0 ≤ 1130; omega, by show ((4 * xcT 3 w9.1)) + 0 ≤ 4520; omega⟩) hS (fun r96 g96 H locs p96 hM hS => ?_)
        refine W.widen (k := ((xcT 3 w9.1))) (n := ((4 * xcT 3 w9.1))) (by omega) (by omega) ?_
        obtain ⟨hg, hr9⟩ := p96
        rw [hr9, show zb (decide (fT true 0 3 ≠ 0)) = 1 from by decide]
        refine lv_if_eq (tgt := 106) hx hb dX11_explain_99 (by decide) (fun c_99 => absurd c_99 (by decide)) (fun c_99 => ?_)
        refine lv_iconst (v := 0) hx hb dX11_explain_102 (by decide) ?_
        refine lv_goto (tgt := 110) hx hb dX11_explain_103 (by decide) ?_
        refine W.widen (k := 1130) (n := 4520) (by omega) (by omega) ?_
        exact mq_iret (v := 0) hx hb hr hlocks hM hS (⟨3, (spL_y hj hl4).trans (by rw [c_33]; exact if_pos (hsk.1.mp c_87)), by have q9 := WR_yt hR8 hg; exact q9⟩) dX11_explain_110
