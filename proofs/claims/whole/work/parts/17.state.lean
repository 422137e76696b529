/-! WHAT A STATE IS: numbers that both sides hold, and where each cell of both lies -/
abbrev AD : Type := Nat → Nat → Nat → Nat
abbrev CC : Type := Nat → Nat → Nat → Option va_E
abbrev skT : Type := Nat × Nat × Nat × Nat
abbrev maT : Type := Nat × Nat × List Bool × Bool × Nat × Nat
abbrev exT : Type := Nat × Nat × eqT × Nat × Nat
abbrev leT : Type := Option exT × Option (eqT × eqT) × List Nat
abbrev AT : Type := (Nat × Nat × Nat) × (Nat → skT) × (Nat → Nat → maT) × (Nat → leT)
abbrev aN (S : AT) : Nat := S.1.1
abbrev aL (S : AT) : Nat := S.1.2.1
abbrev aD (S : AT) : Nat := S.1.2.2
abbrev aS (S : AT) : Nat → skT := S.2.1
abbrev aM (S : AT) : Nat → Nat → maT := S.2.2.1
abbrev aE (S : AT) : Nat → leT := S.2.2.2
/-- a mastery's numbers: odds, told, answers, opened, row, due (0 : never, else one more than the day) -/
abbrev mOd (v : maT) : Nat := v.1
abbrev mTo (v : maT) : Nat := v.2.1
abbrev mAn (v : maT) : List Bool := v.2.2.1
abbrev mOp (v : maT) : Bool := v.2.2.2.1
abbrev mRo (v : maT) : Nat := v.2.2.2.2.1
abbrev mDu (v : maT) : Nat := v.2.2.2.2.2
abbrev lEx (v : leT) : Option exT := v.1
abbrev lWs (v : leT) : Option (eqT × eqT) := v.2.1
abbrev lMd (v : leT) : List Nat := v.2.2
def fU {α : Type} (g : Nat → α) (k : Nat) (v : α) : Nat → α := fun k' => if k' = k then v else g k'
def fU2 {α : Type} (g : Nat → Nat → α) (j k : Nat) (v : α) : Nat → Nat → α := fun j' k' => if j' = j ∧ k' = k then v else g j' k'
theorem fU_s {α : Type} {g : Nat → α} {k : Nat} {v : α} : fU g k v k = v := if_pos rfl
theorem fU_n {α : Type} {g : Nat → α} {k k' : Nat} {v : α} (h : k' ≠ k) : fU g k v k' = g k' := if_neg h
theorem fU2_s {α : Type} {g : Nat → Nat → α} {j k : Nat} {v : α} : fU2 g j k v j k = v := if_pos ⟨rfl, rfl⟩
theorem fU2_n {α : Type} {g : Nat → Nat → α} {j k j' k' : Nat} {v : α} (h : ¬ (j' = j ∧ k' = k)) : fU2 g j k v j' k' = g j' k' := if_neg h
abbrev sTop (S : AT) (n l d : Nat) : AT := ((n, l, d), aS S, aM S, aE S)
abbrev sSk (S : AT) (k : Nat) (v : skT) : AT := (S.1, fU (aS S) k v, aM S, aE S)
abbrev sMa (S : AT) (j k : Nat) (v : maT) : AT := (S.1, aS S, fU2 (aM S) j k v, aE S)
abbrev sLe (S : AT) (j : Nat) (v : leT) : AT := (S.1, aS S, aM S, fU (aE S) j v)
/-- what the class holds besides: words of answers, last numbers, where the oldest lies; the explainer: best, sought, its equations -/
abbrev CX : Type := (Nat → Nat → Nat → Int64) × (Nat → Nat → Int32) × (Nat → Nat) × Nat × Option Nat × (Nat → eqT) × (Nat → eqT)
abbrev xW (X : CX) : Nat → Nat → Nat → Int64 := X.1
abbrev xLn (X : CX) : Nat → Nat → Int32 := X.2.1
abbrev xOl (X : CX) : Nat → Nat := X.2.2.1
abbrev xB (X : CX) : Nat := X.2.2.2.1
abbrev xSo (X : CX) : Option Nat := X.2.2.2.2.1
abbrev xR (X : CX) : Nat → eqT := X.2.2.2.2.2.1
abbrev xK (X : CX) : Nat → eqT := X.2.2.2.2.2.2
/-- what the reference holds besides: thrown; of its lists how often they changed and their rows' lengths; what stays of solved exercises -/
abbrev MX : Type := Int32 × (Int32 × Nat) × (Int32 × Nat) × (Nat → Nat → Int32 × Nat) × (Nat → Int32 × Nat) × (Nat → Nat × Nat × Nat)
abbrev yT (Y : MX) : Int32 := Y.1
abbrev yS (Y : MX) : Int32 × Nat := Y.2.1
abbrev yL (Y : MX) : Int32 × Nat := Y.2.2.1
abbrev yA (Y : MX) : Nat → Nat → Int32 × Nat := Y.2.2.2.1
abbrev yM (Y : MX) : Nat → Int32 × Nat := Y.2.2.2.2.1
abbrev yO (Y : MX) : Nat → Nat × Nat × Nat := Y.2.2.2.2.2
abbrev OX : Type := (Nat → Int64) × (Nat → UInt64)
def eqF (e : eqT) : Nat → Int32 := upd (upd (upd (upd (fun _ => 0) 0 e.1) 1 e.2.1) 2 e.2.2.1) 3 e.2.2.2
abbrev cLs (mc : Int32) (el size : Nat) : va_E := .inr (4, [.int mc, .ref el, .int (nI size)])
abbrev cBo (G : mq_G) (m : Nat) : va_E := .inl (G.2 2, 10, .inl (fun t => zb (m.testBit t)))
def lsD (G : mq_G) (cap q : Nat) : Nat := if cap = 0 then sE G else q
def oMap {α : Type} (o : Option α) (q : Nat) : Option Nat := match o with
  | none => none
  | some _ => some q
def exN (o : Option exT) (s : Nat × Nat × Nat) : Nat × Nat × Nat := match o with
  | none => s
  | some e => (e.1, e.2.2.2.1, e.2.2.2.2)
/-- the cell of each part: 0 to 19 the class's, 20 to 37 the reference's, 38, 39 the law's rows -/
def cT (G : mq_G) (ad : AD) (S : AT) (X : CX) (S2 : AT) (Y : MX) (O : OX) : CC := fun a j k => match a with
  | 0 => if j = 0 ∧ k = 0 then some (.inr (12, [.ref (ad 1 0 0), .ref (ad 2 0 0), .ref (ad 3 0 0), .int (nI (aN S)), .int (nI (aL S)), .int (nI (aD S))])) else none
  | 1 => if j = 0 ∧ k = 0 then some (cRf (G.2 6) 10 (rf_of (aN S) (fun i => ad 4 i 0))) else none
  | 2 => if j = 0 ∧ k = 0 then some (cRf (G.2 4) 4 (rf_of (aL S) (fun i => ad 5 i 0))) else none
  | 3 => if j = 0 ∧ k = 0 then some (cXp (ad 15 0 0) (ad 16 0 0) (xSo X) (xB X)) else none
  | 4 => if j < aN S ∧ k = 0 then some (cSk (aS S j).1 (aS S j).2.1 (aS S j).2.2.1 (aS S j).2.2.2) else none
  | 5 => if j < aL S ∧ k = 0 then some (cLe (ad 6 j 0) (oMap (lEx (aE S j)) (ad 10 j 0)) (oMap (lWs (aE S j)) (ad 12 j 0)) (ad 9 j 0) (xOl X j)) else none
  | 6 => if j < aL S ∧ k = 0 then some (cRf (G.2 5) 10 (rf_of 10 (fun i => ad 7 j i))) else none
  | 7 => if j < aL S ∧ k < 10 then some (cMa (mOd (aM S j k)) (mAn (aM S j k)).length (mDu (aM S j k)) (mTo (aM S j k)) (mRo (aM S j k)) (mOp (aM S j k)) (ad 8 j k)) else none
  | 8 => if j < aL S ∧ k < 10 then some (cWo G (xW X j k)) else none
  | 9 => if j < aL S ∧ k = 0 then some (cIn G 3 (xLn X j)) else none
  | 10 => if j < aL S ∧ k = 0 then (lEx (aE S j)).map (fun e => cEx e.1 (ex_sol e.2.1) (ad 11 j 0) e.2.2.2.1 e.2.2.2.2) else none
  | 11 => if j < aL S ∧ k = 0 then (lEx (aE S j)).map (fun e => cEq e.2.2.1) else none
  | 12 => if j < aL S ∧ k = 0 then (lWs (aE S j)).map (fun _ => .inr (11, [.ref (ad 13 j 0), .ref (ad 14 j 0)])) else none
  | 13 => if j < aL S ∧ k = 0 then (lWs (aE S j)).map (fun w => cEq w.1) else none
  | 14 => if j < aL S ∧ k = 0 then (lWs (aE S j)).map (fun w => cEq w.2) else none
  | 15 => if j = 0 ∧ k = 0 then some (cRf (G.2 3) 3 (rf_of 3 (fun i => ad 17 i 0))) else none
  | 16 => if j = 0 ∧ k = 0 then some (cRf (G.2 3) 3 (rf_of 3 (fun i => ad 18 i 0))) else none
  | 17 => if j < 3 ∧ k = 0 then some (cEq (xR X j)) else none
  | 18 => if j < 3 ∧ k = 0 then some (cEq (xK X j)) else none
  | 20 => if j = 0 ∧ k = 0 then some (.inr (16, [.int (yT Y), .int (nI (aD S2)), .ref (ad 21 0 0), .ref (ad 23 0 0)])) else none
  | 21 => if j = 0 ∧ k = 0 then some (cLs (yS Y).1 (lsD G (yS Y).2 (ad 22 0 0)) (aN S2)) else none
  | 22 => if (yS Y).2 ≠ 0 ∧ j = 0 ∧ k = 0 then some (cRf (G.2 8) (yS Y).2 (rf_of (aN S2) (fun i => ad 25 i 0))) else none
  | 23 => if j = 0 ∧ k = 0 then some (cLs (yL Y).1 (lsD G (yL Y).2 (ad 24 0 0)) (aL S2)) else none
  | 24 => if (yL Y).2 ≠ 0 ∧ j = 0 ∧ k = 0 then some (cRf (G.2 8) (yL Y).2 (rf_of (aL S2) (fun i => ad 27 i 0))) else none
  | 25 => if j < aN S2 ∧ k = 0 then some (.inr (15, [.int (nI (aS S2 j).1), .int (nI (aS S2 j).2.1), .int (nI (aS S2 j).2.2.1), .ref (ad 26 j 0)])) else none
  | 26 => if j < aN S2 ∧ k = 0 then some (cBo G (aS S2 j).2.2.2) else none
  | 27 => if j < aL S2 ∧ k = 0 then some (.inr (14, [.ref (ad 28 j 0), .ref (ad 32 j 0), va_rf (oMap (lEx (aE S2 j)) (ad 35 j 0)), .int (nI (exN (lEx (aE S2 j)) (yO Y j)).1), .int (nI (exN (lEx (aE S2 j)) (yO Y j)).2.1), .int (nI (exN (lEx (aE S2 j)) (yO Y j)).2.2), va_rf (oMap (lWs (aE S2 j)) (ad 36 j 0)), va_rf (oMap (lWs (aE S2 j)) (ad 37 j 0))])) else none
  | 28 => if j < aL S2 ∧ k = 0 then some (cRf (G.2 7) 10 (rf_of 10 (fun i => ad 29 j i))) else none
  | 29 => if j < aL S2 ∧ k < 10 then some (.inr (13, [.int (nI (mOd (aM S2 j k))), .int (nI (mTo (aM S2 j k))), .ref (ad 30 j k), .int (zb (mOp (aM S2 j k))), .int (nI (mRo (aM S2 j k))), .int (du (mDu (aM S2 j k)))])) else none
  | 30 => if j < aL S2 ∧ k < 10 then some (cLs (yA Y j k).1 (lsD G (yA Y j k).2 (ad 31 j k)) (mAn (aM S2 j k)).length) else none
  | 31 => if (yA Y j k).2 ≠ 0 ∧ j < aL S2 ∧ k < 10 then some (cRf (G.2 8) (yA Y j k).2 (rf_of (mAn (aM S2 j k)).length (fun i => sB G ((mAn (aM S2 j k)).getD i false)))) else none
  | 32 => if j < aL S2 ∧ k = 0 then some (cLs (yM Y j).1 (lsD G (yM Y j).2 (ad 33 j 0)) (lMd (aE S2 j)).length) else none
  | 33 => if (yM Y j).2 ≠ 0 ∧ j < aL S2 ∧ k = 0 then some (cRf (G.2 8) (yM Y j).2 (rf_of (lMd (aE S2 j)).length (fun i => ad 34 j i))) else none
  | 34 => if j < aL S2 ∧ k < (lMd (aE S2 j)).length then some (cIn G 4 (eqF (ex_eq ((lMd (aE S2 j)).getD k 0)))) else none
  | 35 => if j < aL S2 ∧ k = 0 then (lEx (aE S2 j)).map (fun e => cIn G 4 (eqF e.2.2.1)) else none
  | 36 => if j < aL S2 ∧ k = 0 then (lWs (aE S2 j)).map (fun w => cIn G 4 (eqF w.1)) else none
  | 37 => if j < aL S2 ∧ k = 0 then (lWs (aE S2 j)).map (fun w => cIn G 4 (eqF w.2)) else none
  | 38 => if j = 0 ∧ k = 0 then some (.inl (G.2 1, 1, .inr (.inl O.1))) else none
  | 39 => if j = 0 ∧ k = 0 then some (.inl (G.2 9, 1, .inr (.inr (.inr (.inl O.2))))) else none
  | _ => none
/-- equations lie where several parts may look -/
def shr (a : Nat) : Bool := a == 11 || (a == 13 || (a == 14 || (a == 34 || (a == 35 || (a == 36 || a == 37)))))
def RR (f : mq_F) (ad : AD) (c : CC) : Prop := (∀ a j k e, c a j k = some e → f (ad a j k) = some e) ∧ (∀ a j k a' j' k' e e', c a j k = some e → c a' j' k' = some e' → ad a j k = ad a' j' k' → (shr a = true ∧ shr a' = true) ∨ (a = a' ∧ j = j' ∧ k = k'))
def adU (ad : AD) (a j k q : Nat) : AD := fun a' j' k' => if a' = a ∧ j' = j ∧ k' = k then q else ad a' j' k'
def cU (c : CC) (a j k : Nat) (e : va_E) : CC := fun a' j' k' => if a' = a ∧ j' = j ∧ k' = k then some e else c a' j' k'
theorem adU_s {ad : AD} {a j k q : Nat} : adU ad a j k q a j k = q := if_pos ⟨rfl, rfl, rfl⟩
theorem adU_n {ad : AD} {a j k q a' j' k' : Nat} (h : ¬ (a' = a ∧ j' = j ∧ k' = k)) : adU ad a j k q a' j' k' = ad a' j' k' := if_neg h
theorem cU_s {c : CC} {a j k : Nat} {e : va_E} : cU c a j k e a j k = some e := if_pos ⟨rfl, rfl, rfl⟩
theorem cU_n {c : CC} {a j k a' j' k' : Nat} {e : va_E} (h : ¬ (a' = a ∧ j' = j ∧ k' = k)) : cU c a j k e a' j' k' = c a' j' k' := if_neg h
theorem RR.ne {f : mq_F} {ad : AD} {c : CC} {a j k a' j' k' : Nat} {e e' : va_E} (h : RR f ad c) (h1 : c a j k = some e) (h2 : c a' j' k' = some e') (hs : shr a' = false) (hn : ¬ (a = a' ∧ j = j' ∧ k = k')) : ad a j k ≠ ad a' j' k' := fun w => (h.2 _ _ _ _ _ _ _ _ h1 h2 w).elim (fun q => by rw [hs] at q; exact absurd q.2 (by decide)) hn
theorem RR.put {f g : mq_F} {ad : AD} {c : CC} {a j k : Nat} {e e0 : va_E} (h : RR f ad c) (h0 : c a j k = some e0) (hs : shr a = false) (hg : g = mq_up f (ad a j k) e) : RR g ad (cU c a j k e) := by
  have lv : ∀ a' j' k' e', cU c a j k e a' j' k' = some e' → ∃ e9, c a' j' k' = some e9 := by
    intro a' j' k' e' h'
    by_cases hr : a' = a ∧ j' = j ∧ k' = k
    · obtain ⟨rfl, rfl, rfl⟩ := hr; exact ⟨e0, h0⟩
    · rw [cU_n hr] at h'; exact ⟨e', h'⟩
  refine ⟨fun a' j' k' e' h' => ?_, fun a1 j1 k1 a2 j2 k2 e1 e2 h1 h2 hw => ?_⟩
  · by_cases hr : a' = a ∧ j' = j ∧ k' = k
    · obtain ⟨rfl, rfl, rfl⟩ := hr
      rw [cU_s] at h'; cases h'; exact mq_s hg
    · rw [cU_n hr] at h'
      exact mq_n hg (h.1 _ _ _ _ h') (h.ne h' h0 hs hr)
  · obtain ⟨x1, y1⟩ := lv _ _ _ _ h1
    obtain ⟨x2, y2⟩ := lv _ _ _ _ h2
    exact h.2 _ _ _ _ _ _ _ _ y1 y2 hw
theorem RR.new {f g : mq_F} {ad : AD} {c : CC} {a j k q : Nat} {e : va_E} (h : RR f ad c) (hq : f q = none) (hg : g = mq_up f q e) : RR g (adU ad a j k q) (cU c a j k e) := by
  have old : ∀ a' j' k' e', c a' j' k' = some e' → ad a' j' k' ≠ q := fun a' j' k' e' h' => mq_neN (h.1 _ _ _ _ h') hq
  refine ⟨fun a' j' k' e' h' => ?_, fun a1 j1 k1 a2 j2 k2 e1 e2 h1 h2 hw => ?_⟩
  · by_cases hr : a' = a ∧ j' = j ∧ k' = k
    · obtain ⟨rfl, rfl, rfl⟩ := hr
      rw [cU_s] at h'; cases h'; rw [adU_s]; exact mq_s hg
    · rw [cU_n hr] at h'; rw [adU_n hr]
      exact mq_n hg (h.1 _ _ _ _ h') (old _ _ _ _ h')
  · by_cases hr1 : a1 = a ∧ j1 = j ∧ k1 = k
    · by_cases hr2 : a2 = a ∧ j2 = j ∧ k2 = k
      · obtain ⟨rfl, rfl, rfl⟩ := hr1; obtain ⟨rfl, rfl, rfl⟩ := hr2; exact Or.inr ⟨rfl, rfl, rfl⟩
      · rw [cU_n hr2] at h2
        obtain ⟨rfl, rfl, rfl⟩ := hr1
        rw [adU_s, adU_n hr2] at hw
        exact absurd hw.symm (old _ _ _ _ h2)
    · rw [cU_n hr1] at h1
      by_cases hr2 : a2 = a ∧ j2 = j ∧ k2 = k
      · obtain ⟨rfl, rfl, rfl⟩ := hr2
        rw [adU_s, adU_n hr1] at hw
        exact absurd hw (old _ _ _ _ h1)
      · rw [cU_n hr2] at h2
        rw [adU_n hr1, adU_n hr2] at hw
        exact h.2 _ _ _ _ _ _ _ _ h1 h2 hw
theorem RR.same {f : mq_F} {ad : AD} {c : CC} {a j k b jb kb : Nat} {e : va_E} (h : RR f ad c) (h0 : c b jb kb = some e) (hs : shr a = true) (hb : shr b = true) : RR f (adU ad a j k (ad b jb kb)) (cU c a j k e) := by
  refine ⟨fun a' j' k' e' h' => ?_, fun a1 j1 k1 a2 j2 k2 e1 e2 h1 h2 hw => ?_⟩
  · by_cases hr : a' = a ∧ j' = j ∧ k' = k
    · obtain ⟨rfl, rfl, rfl⟩ := hr
      rw [cU_s] at h'; cases h'; rw [adU_s]; exact h.1 _ _ _ _ h0
    · rw [cU_n hr] at h'; rw [adU_n hr]
      exact h.1 _ _ _ _ h'
  · by_cases hr1 : a1 = a ∧ j1 = j ∧ k1 = k
    · by_cases hr2 : a2 = a ∧ j2 = j ∧ k2 = k
      · obtain ⟨rfl, rfl, rfl⟩ := hr1; obtain ⟨rfl, rfl, rfl⟩ := hr2; exact Or.inr ⟨rfl, rfl, rfl⟩
      · rw [cU_n hr2] at h2
        obtain ⟨rfl, rfl, rfl⟩ := hr1
        rw [adU_s, adU_n hr2] at hw
        rcases h.2 _ _ _ _ _ _ _ _ h0 h2 hw with q | ⟨rfl, -, -⟩
        · exact Or.inl ⟨hs, q.2⟩
        · exact Or.inl ⟨hs, hb⟩
    · rw [cU_n hr1] at h1
      by_cases hr2 : a2 = a ∧ j2 = j ∧ k2 = k
      · obtain ⟨rfl, rfl, rfl⟩ := hr2
        rw [adU_s, adU_n hr1] at hw
        rcases h.2 _ _ _ _ _ _ _ _ h1 h0 hw with q | ⟨rfl, -, -⟩
        · exact Or.inl ⟨q.1, hs⟩
        · exact Or.inl ⟨hb, hs⟩
      · rw [cU_n hr2] at h2
        rw [adU_n hr1, adU_n hr2] at hw
        exact h.2 _ _ _ _ _ _ _ _ h1 h2 hw
theorem RR.sub {f : mq_F} {ad : AD} {c c' : CC} (h : RR f ad c) (hc : ∀ a j k e, c' a j k = some e → c a j k = some e) : RR f ad c' := ⟨fun a j k e q => h.1 _ _ _ _ (hc _ _ _ _ q), fun a j k a' j' k' e e' q q' => h.2 _ _ _ _ _ _ _ _ (hc _ _ _ _ q) (hc _ _ _ _ q')⟩
theorem RR.mono {f g : mq_F} {ad : AD} {c : CC} (h : RR f ad c) (hg : ∀ y e, f y = some e → g y = some e) : RR g ad c := ⟨fun a j k e q => hg _ _ (h.1 _ _ _ _ q), h.2⟩
/-- garbage of a map may be forgotten -/
theorem mq_W.less {D : va_G} {A : Nat → Prop} {f g : mq_F} {H : Heap} (h : mq_W D A g H) (hg : ∀ y e, f y = some e → g y = some e) : mq_W D A f H := fun a e hf => h a e (hg a e hf)
abbrev WR (G : mq_G) (f : mq_F) (ad : AD) (S : AT) (X : CX) (S2 : AT) (Y : MX) (O : OX) : Prop := RR f ad (cT G ad S X S2 Y O)
section WRF
variable {G : mq_G} {f : mq_F} {ad : AD} {S : AT} {X : CX} {S2 : AT} {Y : MX} {O : OX} {j k : Nat}
theorem t0 : cT G ad S X S2 Y O 0 0 0 = some (.inr (12, [.ref (ad 1 0 0), .ref (ad 2 0 0), .ref (ad 3 0 0), .int (nI (aN S)), .int (nI (aL S)), .int (nI (aD S))])) := rfl
theorem t1 : cT G ad S X S2 Y O 1 0 0 = some (cRf (G.2 6) 10 (rf_of (aN S) (fun i => ad 4 i 0))) := rfl
theorem t2 : cT G ad S X S2 Y O 2 0 0 = some (cRf (G.2 4) 4 (rf_of (aL S) (fun i => ad 5 i 0))) := rfl
theorem t3 : cT G ad S X S2 Y O 3 0 0 = some (cXp (ad 15 0 0) (ad 16 0 0) (xSo X) (xB X)) := rfl
theorem t4 (h : j < aN S) : cT G ad S X S2 Y O 4 j 0 = some (cSk (aS S j).1 (aS S j).2.1 (aS S j).2.2.1 (aS S j).2.2.2) := if_pos ⟨h, rfl⟩
theorem t5 (h : j < aL S) : cT G ad S X S2 Y O 5 j 0 = some (cLe (ad 6 j 0) (oMap (lEx (aE S j)) (ad 10 j 0)) (oMap (lWs (aE S j)) (ad 12 j 0)) (ad 9 j 0) (xOl X j)) := if_pos ⟨h, rfl⟩
theorem t6 (h : j < aL S) : cT G ad S X S2 Y O 6 j 0 = some (cRf (G.2 5) 10 (rf_of 10 (fun i => ad 7 j i))) := if_pos ⟨h, rfl⟩
theorem t7 (h : j < aL S) (h' : k < 10) : cT G ad S X S2 Y O 7 j k = some (cMa (mOd (aM S j k)) (mAn (aM S j k)).length (mDu (aM S j k)) (mTo (aM S j k)) (mRo (aM S j k)) (mOp (aM S j k)) (ad 8 j k)) := if_pos ⟨h, h'⟩
theorem t8 (h : j < aL S) (h' : k < 10) : cT G ad S X S2 Y O 8 j k = some (cWo G (xW X j k)) := if_pos ⟨h, h'⟩
theorem t9 (h : j < aL S) : cT G ad S X S2 Y O 9 j 0 = some (cIn G 3 (xLn X j)) := if_pos ⟨h, rfl⟩
theorem t10 (h : j < aL S) {e : exT} (he : lEx (aE S j) = some e) : cT G ad S X S2 Y O 10 j 0 = some (cEx e.1 (ex_sol e.2.1) (ad 11 j 0) e.2.2.2.1 e.2.2.2.2) := (if_pos ⟨h, rfl⟩).trans (by rw [he]; rfl)
theorem t11 (h : j < aL S) {e : exT} (he : lEx (aE S j) = some e) : cT G ad S X S2 Y O 11 j 0 = some (cEq e.2.2.1) := (if_pos ⟨h, rfl⟩).trans (by rw [he]; rfl)
theorem t12 (h : j < aL S) {w : eqT × eqT} (he : lWs (aE S j) = some w) : cT G ad S X S2 Y O 12 j 0 = some (.inr (11, [.ref (ad 13 j 0), .ref (ad 14 j 0)])) := (if_pos ⟨h, rfl⟩).trans (by rw [he]; rfl)
theorem t13 (h : j < aL S) {w : eqT × eqT} (he : lWs (aE S j) = some w) : cT G ad S X S2 Y O 13 j 0 = some (cEq w.1) := (if_pos ⟨h, rfl⟩).trans (by rw [he]; rfl)
theorem t14 (h : j < aL S) {w : eqT × eqT} (he : lWs (aE S j) = some w) : cT G ad S X S2 Y O 14 j 0 = some (cEq w.2) := (if_pos ⟨h, rfl⟩).trans (by rw [he]; rfl)
theorem t15 : cT G ad S X S2 Y O 15 0 0 = some (cRf (G.2 3) 3 (rf_of 3 (fun i => ad 17 i 0))) := rfl
theorem t16 : cT G ad S X S2 Y O 16 0 0 = some (cRf (G.2 3) 3 (rf_of 3 (fun i => ad 18 i 0))) := rfl
theorem t17 (h : j < 3) : cT G ad S X S2 Y O 17 j 0 = some (cEq (xR X j)) := if_pos ⟨h, rfl⟩
theorem t18 (h : j < 3) : cT G ad S X S2 Y O 18 j 0 = some (cEq (xK X j)) := if_pos ⟨h, rfl⟩
end WRF
