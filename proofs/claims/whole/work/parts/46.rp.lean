/-! THE REFERENCE: what a rule makes; hint -/
/-- what a rule makes: the right ones 0 to 4, the broken ones 5 more -/
def dnV (k : Nat) (q : eqT) : Option eqT := if k = 7 then none else if (k = 4 ∨ k = 9) ∧ eq_may q = false then none else some (eq_rule (k % 5) (decide (5 ≤ k)) q)
theorem may_3 {q : eqT} (h : eq_may q = true) : q.2.1 = 0 ∧ q.2.2.1 = 0 ∧ q.1 ≠ 0 := by
  unfold eq_may at h
  simp only [Bool.and_eq_true, decide_eq_true_eq, Bool.not_eq_true', decide_eq_false_iff_not] at h
  exact ⟨h.1, h.2.1, h.2.2.1⟩
theorem dnV_no {k : Nat} {q : eqT} (hk : k = 4 ∨ k = 9) (h : eq_may q = false) : dnV k q = none := by
  unfold dnV
  rw [if_neg (by omega), if_pos ⟨hk, h⟩]
theorem dnV_4 {q : eqT} (h : eq_may q = true) : dnV 4 q = some (1, 0, 0, q.2.2.2 / q.1) := by
  obtain ⟨h1, h2, h3⟩ := may_3 h
  unfold dnV
  rw [if_neg (by decide), if_neg (by rw [h]; simp)]
  show some (if eq_may q then (1, q.2.1, q.2.2.1, q.2.2.2 / q.1) else q) = _
  rw [h, h1, h2]; rfl
theorem dnV_9 {q : eqT} (h : eq_may q = true) : dnV 9 q = some (1, 0, 0, q.2.2.2) := by
  obtain ⟨h1, h2, h3⟩ := may_3 h
  unfold dnV
  rw [if_neg (by decide), if_neg (by rw [h]; simp)]
  show some (if eq_may q then (1, q.2.1, q.2.2.1, q.2.2.2) else q) = _
  rw [h, h1, h2]; rfl
theorem dn_s {k : Nat} {q e : eqT} (hk : k < 5) (h : dnV k q = some e) : e = eq_rule k false q := by
  unfold dnV at h
  rw [if_neg (by omega)] at h
  split at h
  · cases h
  · rw [Nat.mod_eq_of_lt hk, decide_eq_false (by omega)] at h
    exact (Option.some.inj h).symm
theorem dn_n4 {q : eqT} (h : dnV 4 q = none) : eq_rule 4 false q = q := by
  cases hm : eq_may q with
  | true => rw [dnV_4 hm] at h; cases h
  | false =>
    show (if eq_may q then _ else q) = q
    rw [hm]; rfl

set_option maxHeartbeats 2000000 in
theorem cT_exR {G : mq_G} {ad : AD} {S : AT} {X : CX} {S2 : AT} {Y : MX} {O : OX} {j0 : Nat} {e : exT} (wr hi : Nat) (hj : j0 < aL S2) (he : lEx (aE S2 j0) = some e) : cU (cT G ad S X S2 Y O) 27 j0 0 (.inr (14, [.ref (ad 28 j0 0), .ref (ad 32 j0 0), .ref (ad 35 j0 0), .int (nI e.1), .int (nI wr), .int (nI hi), va_rf (oMap (lWs (aE S2 j0)) (ad 36 j0 0)), va_rf (oMap (lWs (aE S2 j0)) (ad 37 j0 0))])) = cT G ad S X (sLe S2 j0 (some (e.1, e.2.1, e.2.2.1, wr, hi), lWs (aE S2 j0), lMd (aE S2 j0))) Y O := by
  funext a j k
  exact (match a with
    | 0 => by first | rfl | (simp [aN, aL, aD, aS, aM, aE, sTop, sSk, sMa, sLe, xW, xLn, xOl, xB, xSo, xR, xK, sW, sRi, sXp, lEx, lWs, lMd, cU, cT, adU, fU, fU2]; done)
    | 1 => by first | rfl | (simp [aN, aL, aD, aS, aM, aE, sTop, sSk, sMa, sLe, xW, xLn, xOl, xB, xSo, xR, xK, sW, sRi, sXp, lEx, lWs, lMd, cU, cT, adU, fU, fU2]; done)
    | 2 => by first | rfl | (simp [aN, aL, aD, aS, aM, aE, sTop, sSk, sMa, sLe, xW, xLn, xOl, xB, xSo, xR, xK, sW, sRi, sXp, lEx, lWs, lMd, cU, cT, adU, fU, fU2]; done)
    | 3 => by first | rfl | (simp [aN, aL, aD, aS, aM, aE, sTop, sSk, sMa, sLe, xW, xLn, xOl, xB, xSo, xR, xK, sW, sRi, sXp, lEx, lWs, lMd, cU, cT, adU, fU, fU2]; done)
    | 4 => by first | rfl | (simp [aN, aL, aD, aS, aM, aE, sTop, sSk, sMa, sLe, xW, xLn, xOl, xB, xSo, xR, xK, sW, sRi, sXp, lEx, lWs, lMd, cU, cT, adU, fU, fU2]; done)
    | 5 => by first | rfl | (simp [aN, aL, aD, aS, aM, aE, sTop, sSk, sMa, sLe, xW, xLn, xOl, xB, xSo, xR, xK, sW, sRi, sXp, lEx, lWs, lMd, cU, cT, adU, fU, fU2]; done)
    | 6 => by first | rfl | (simp [aN, aL, aD, aS, aM, aE, sTop, sSk, sMa, sLe, xW, xLn, xOl, xB, xSo, xR, xK, sW, sRi, sXp, lEx, lWs, lMd, cU, cT, adU, fU, fU2]; done)
    | 7 => by first | rfl | (simp [aN, aL, aD, aS, aM, aE, sTop, sSk, sMa, sLe, xW, xLn, xOl, xB, xSo, xR, xK, sW, sRi, sXp, lEx, lWs, lMd, cU, cT, adU, fU, fU2]; done)
    | 8 => by first | rfl | (simp [aN, aL, aD, aS, aM, aE, sTop, sSk, sMa, sLe, xW, xLn, xOl, xB, xSo, xR, xK, sW, sRi, sXp, lEx, lWs, lMd, cU, cT, adU, fU, fU2]; done)
    | 9 => by first | rfl | (simp [aN, aL, aD, aS, aM, aE, sTop, sSk, sMa, sLe, xW, xLn, xOl, xB, xSo, xR, xK, sW, sRi, sXp, lEx, lWs, lMd, cU, cT, adU, fU, fU2]; done)
    | 10 => by first | rfl | (simp [aN, aL, aD, aS, aM, aE, sTop, sSk, sMa, sLe, xW, xLn, xOl, xB, xSo, xR, xK, sW, sRi, sXp, lEx, lWs, lMd, cU, cT, adU, fU, fU2]; done)
    | 11 => by first | rfl | (simp [aN, aL, aD, aS, aM, aE, sTop, sSk, sMa, sLe, xW, xLn, xOl, xB, xSo, xR, xK, sW, sRi, sXp, lEx, lWs, lMd, cU, cT, adU, fU, fU2]; done)
    | 12 => by first | rfl | (simp [aN, aL, aD, aS, aM, aE, sTop, sSk, sMa, sLe, xW, xLn, xOl, xB, xSo, xR, xK, sW, sRi, sXp, lEx, lWs, lMd, cU, cT, adU, fU, fU2]; done)
    | 13 => by first | rfl | (simp [aN, aL, aD, aS, aM, aE, sTop, sSk, sMa, sLe, xW, xLn, xOl, xB, xSo, xR, xK, sW, sRi, sXp, lEx, lWs, lMd, cU, cT, adU, fU, fU2]; done)
    | 14 => by first | rfl | (simp [aN, aL, aD, aS, aM, aE, sTop, sSk, sMa, sLe, xW, xLn, xOl, xB, xSo, xR, xK, sW, sRi, sXp, lEx, lWs, lMd, cU, cT, adU, fU, fU2]; done)
    | 15 => by first | rfl | (simp [aN, aL, aD, aS, aM, aE, sTop, sSk, sMa, sLe, xW, xLn, xOl, xB, xSo, xR, xK, sW, sRi, sXp, lEx, lWs, lMd, cU, cT, adU, fU, fU2]; done)
    | 16 => by first | rfl | (simp [aN, aL, aD, aS, aM, aE, sTop, sSk, sMa, sLe, xW, xLn, xOl, xB, xSo, xR, xK, sW, sRi, sXp, lEx, lWs, lMd, cU, cT, adU, fU, fU2]; done)
    | 17 => by first | rfl | (simp [aN, aL, aD, aS, aM, aE, sTop, sSk, sMa, sLe, xW, xLn, xOl, xB, xSo, xR, xK, sW, sRi, sXp, lEx, lWs, lMd, cU, cT, adU, fU, fU2]; done)
    | 18 => by first | rfl | (simp [aN, aL, aD, aS, aM, aE, sTop, sSk, sMa, sLe, xW, xLn, xOl, xB, xSo, xR, xK, sW, sRi, sXp, lEx, lWs, lMd, cU, cT, adU, fU, fU2]; done)
    | 19 => by first | rfl | (simp [aN, aL, aD, aS, aM, aE, sTop, sSk, sMa, sLe, xW, xLn, xOl, xB, xSo, xR, xK, sW, sRi, sXp, lEx, lWs, lMd, cU, cT, adU, fU, fU2]; done)
    | 20 => by first | rfl | (simp [aN, aL, aD, aS, aM, aE, sTop, sSk, sMa, sLe, xW, xLn, xOl, xB, xSo, xR, xK, sW, sRi, sXp, lEx, lWs, lMd, cU, cT, adU, fU, fU2]; done)
    | 21 => by first | rfl | (simp [aN, aL, aD, aS, aM, aE, sTop, sSk, sMa, sLe, xW, xLn, xOl, xB, xSo, xR, xK, sW, sRi, sXp, lEx, lWs, lMd, cU, cT, adU, fU, fU2]; done)
    | 22 => by first | rfl | (simp [aN, aL, aD, aS, aM, aE, sTop, sSk, sMa, sLe, xW, xLn, xOl, xB, xSo, xR, xK, sW, sRi, sXp, lEx, lWs, lMd, cU, cT, adU, fU, fU2]; done)
    | 23 => by first | rfl | (simp [aN, aL, aD, aS, aM, aE, sTop, sSk, sMa, sLe, xW, xLn, xOl, xB, xSo, xR, xK, sW, sRi, sXp, lEx, lWs, lMd, cU, cT, adU, fU, fU2]; done)
    | 24 => by first | rfl | (simp [aN, aL, aD, aS, aM, aE, sTop, sSk, sMa, sLe, xW, xLn, xOl, xB, xSo, xR, xK, sW, sRi, sXp, lEx, lWs, lMd, cU, cT, adU, fU, fU2]; done)
    | 25 => by first | rfl | (simp [aN, aL, aD, aS, aM, aE, sTop, sSk, sMa, sLe, xW, xLn, xOl, xB, xSo, xR, xK, sW, sRi, sXp, lEx, lWs, lMd, cU, cT, adU, fU, fU2]; done)
    | 26 => by first | rfl | (simp [aN, aL, aD, aS, aM, aE, sTop, sSk, sMa, sLe, xW, xLn, xOl, xB, xSo, xR, xK, sW, sRi, sXp, lEx, lWs, lMd, cU, cT, adU, fU, fU2]; done)
    | 27 => by
        by_cases h : j = j0
        · subst h; by_cases h2 : k = 0 <;> simp [aN, aL, aD, aS, aM, aE, sTop, sSk, sMa, sLe, lEx, lWs, lMd, cU, cT, adU, fU, fU2, yT, yS, yL, yA, yM, yO, yAn, yMn, oMap, hj, h2, he, exN, va_rf]
        · simp [aN, aL, aD, aS, aM, aE, sTop, sSk, sMa, sLe, lEx, lWs, lMd, cU, cT, adU, fU, fU2, yT, yS, yL, yA, yM, yO, yAn, yMn, oMap, h]
    | 28 => by first | rfl | (simp [aN, aL, aD, aS, aM, aE, sTop, sSk, sMa, sLe, xW, xLn, xOl, xB, xSo, xR, xK, sW, sRi, sXp, lEx, lWs, lMd, cU, cT, adU, fU, fU2]; done)
    | 29 => by first | rfl | (simp [aN, aL, aD, aS, aM, aE, sTop, sSk, sMa, sLe, xW, xLn, xOl, xB, xSo, xR, xK, sW, sRi, sXp, lEx, lWs, lMd, cU, cT, adU, fU, fU2]; done)
    | 30 => by first | rfl | (simp [aN, aL, aD, aS, aM, aE, sTop, sSk, sMa, sLe, xW, xLn, xOl, xB, xSo, xR, xK, sW, sRi, sXp, lEx, lWs, lMd, cU, cT, adU, fU, fU2]; done)
    | 31 => by first | rfl | (simp [aN, aL, aD, aS, aM, aE, sTop, sSk, sMa, sLe, xW, xLn, xOl, xB, xSo, xR, xK, sW, sRi, sXp, lEx, lWs, lMd, cU, cT, adU, fU, fU2]; done)
    | 32 => by
        by_cases h : j = j0
        · subst h; by_cases h2 : k = 0 <;> simp [aN, aL, aD, aS, aM, aE, sTop, sSk, sMa, sLe, lEx, lWs, lMd, cU, cT, adU, fU, fU2, yT, yS, yL, yA, yM, yO, yAn, yMn, oMap, hj, h2, he, exN, va_rf]
        · simp [aN, aL, aD, aS, aM, aE, sTop, sSk, sMa, sLe, lEx, lWs, lMd, cU, cT, adU, fU, fU2, yT, yS, yL, yA, yM, yO, yAn, yMn, oMap, h]
    | 33 => by
        by_cases h : j = j0
        · subst h; by_cases h2 : k = 0 <;> simp [aN, aL, aD, aS, aM, aE, sTop, sSk, sMa, sLe, lEx, lWs, lMd, cU, cT, adU, fU, fU2, yT, yS, yL, yA, yM, yO, yAn, yMn, oMap, hj, h2, he, exN, va_rf]
        · simp [aN, aL, aD, aS, aM, aE, sTop, sSk, sMa, sLe, lEx, lWs, lMd, cU, cT, adU, fU, fU2, yT, yS, yL, yA, yM, yO, yAn, yMn, oMap, h]
    | 34 => by
        by_cases h : j = j0
        · subst h; by_cases h2 : k = 0 <;> simp [aN, aL, aD, aS, aM, aE, sTop, sSk, sMa, sLe, lEx, lWs, lMd, cU, cT, adU, fU, fU2, yT, yS, yL, yA, yM, yO, yAn, yMn, oMap, hj, h2, he, exN, va_rf]
        · simp [aN, aL, aD, aS, aM, aE, sTop, sSk, sMa, sLe, lEx, lWs, lMd, cU, cT, adU, fU, fU2, yT, yS, yL, yA, yM, yO, yAn, yMn, oMap, h]
    | 35 => by
        by_cases h : j = j0
        · subst h; by_cases h2 : k = 0 <;> simp [aN, aL, aD, aS, aM, aE, sTop, sSk, sMa, sLe, lEx, lWs, lMd, cU, cT, adU, fU, fU2, yT, yS, yL, yA, yM, yO, yAn, yMn, oMap, hj, h2, he, exN, va_rf]
        · simp [aN, aL, aD, aS, aM, aE, sTop, sSk, sMa, sLe, lEx, lWs, lMd, cU, cT, adU, fU, fU2, yT, yS, yL, yA, yM, yO, yAn, yMn, oMap, h]
    | 36 => by
        by_cases h : j = j0
        · subst h; by_cases h2 : k = 0 <;> simp [aN, aL, aD, aS, aM, aE, sTop, sSk, sMa, sLe, lEx, lWs, lMd, cU, cT, adU, fU, fU2, yT, yS, yL, yA, yM, yO, yAn, yMn, oMap, hj, h2, he, exN, va_rf]
        · simp [aN, aL, aD, aS, aM, aE, sTop, sSk, sMa, sLe, lEx, lWs, lMd, cU, cT, adU, fU, fU2, yT, yS, yL, yA, yM, yO, yAn, yMn, oMap, h]
    | 37 => by
        by_cases h : j = j0
        · subst h; by_cases h2 : k = 0 <;> simp [aN, aL, aD, aS, aM, aE, sTop, sSk, sMa, sLe, lEx, lWs, lMd, cU, cT, adU, fU, fU2, yT, yS, yL, yA, yM, yO, yAn, yMn, oMap, hj, h2, he, exN, va_rf]
        · simp [aN, aL, aD, aS, aM, aE, sTop, sSk, sMa, sLe, lEx, lWs, lMd, cU, cT, adU, fU, fU2, yT, yS, yL, yA, yM, yO, yAn, yMn, oMap, h]
    | 38 => by first | rfl | (simp [aN, aL, aD, aS, aM, aE, sTop, sSk, sMa, sLe, xW, xLn, xOl, xB, xSo, xR, xK, sW, sRi, sXp, lEx, lWs, lMd, cU, cT, adU, fU, fU2]; done)
    | 39 => by first | rfl | (simp [aN, aL, aD, aS, aM, aE, sTop, sSk, sMa, sLe, xW, xLn, xOl, xB, xSo, xR, xK, sW, sRi, sXp, lEx, lWs, lMd, cU, cT, adU, fU, fU2]; done)
    | n + 40 => by first | rfl | simp [cU, cT])

theorem WR_exR {G : mq_G} {f g : mq_F} {ad : AD} {S : AT} {X : CX} {S2 : AT} {Y : MX} {O : OX} {j : Nat} {e : exT} (hR : WR G f ad S X S2 Y O) (wr hi : Nat) (hj : j < aL S2) (he : lEx (aE S2 j) = some e) (hg : g = mq_up f (ad 27 j 0) (.inr (14, [.ref (ad 28 j 0), .ref (ad 32 j 0), .ref (ad 35 j 0), .int (nI e.1), .int (nI wr), .int (nI hi), va_rf (oMap (lWs (aE S2 j)) (ad 36 j 0)), va_rf (oMap (lWs (aE S2 j)) (ad 37 j 0))]))) : WR G g ad S X (sLe S2 j (some (e.1, e.2.1, e.2.2.1, wr, hi), lWs (aE S2 j), lMd (aE S2 j))) Y O := by
  have r3 := RR.put hR (a := 27) (j := j) (k := 0) (t27 hj) rfl hg
  rw [cT_exR wr hi hj he] at r3; exact r3

set_option maxHeartbeats 4000000 in
set_option maxRecDepth 100000 in
theorem c_X11_done (l : Launch) (G : mq_G) (A : Nat → Prop) (f : mq_F) (k y : Nat) (u9 : eqT) : Met l yX11_done wsX11_done ({ frames := 1, cells := 1, slots := 4, locals := 24 } : Room) (mq_Pc G A f (f y = some (cIn G 4 (eqF u9)) ∧ k < 10) [.int (nI k), .ref y]) (mq_Qq G A (fun r g => ∃ q, r = oMap (dnV k u9) q ∧ (∀ y e, f y = some e → g y = some e) ∧ ∀ e, dnV k u9 = some e → g q = some (cIn G 4 (eqF e)))) 1 4 A := by
  refine Met.ofW (cc := cX11_done) (maxL := 7) (ret := (some (.array .int))) (by decide) rfl ?_
  intro p e s m args below meth c s₁ B hml hv
  obtain ⟨rfl, ⟨hK, hZ, hM, hA⟩, hp⟩ := hv
  have hx := B.exec
  have hb := B.bytes
  have hr := B.returns
  have hts := atoms_spec (ws := wsX11_done) B.pre
  have hown : s.vm.findClass RX11 = some m.cls := findClass_of_methodNamed B.named
  have hlocks := B.notSynchronized
  have hS : va_S A s.heap s.heap [] := va_S.rf
  have hl := lv_entry ([.int (nI k), .ref y]) (n := 7) (Nat.le_of_ble_eq_true rfl)
  rw [lg_entry_eq]
  generalize (lg_sl ([.int (nI k), .ref y]) ++ List.replicate (7 - (lg_sl ([.int (nI k), .ref y])).length) Slot.unset).toArray = ls at hl ⊢
  have hl : lv_has ls 7 [(0, .int (nI k)), (1, .ref y)] := hl
  obtain ⟨h0, hk⟩ := hp
  refine lv_aload_n hx hb dX11_done_0 rfl (lv_at hl 1 rfl) ?_
  refine lv_iconst (v := 0) hx hb dX11_done_1 (by decide) ?_
  refine mq_iald hx hb hK hM h0 (vp_in_nI (n := 0) (by decide) (by decide)) dX11_done_2 ?_
  rw [show (0 : Int32).toNatClampNeg = 0 from rfl]
  rw [show (eqF u9) 0 = u9.1 from rfl]
  refine lv_istore_n (lv' := [(2, .int u9.1), (0, .int (nI k)), (1, .ref y)]) hx hb dX11_done_3 rfl hl (by decide) rfl (fun ls hl => ?_)
  refine lv_aload_n hx hb dX11_done_4 rfl (lv_at hl 2 rfl) ?_
  refine lv_iconst (v := 1) hx hb dX11_done_5 (by decide) ?_
  refine mq_iald hx hb hK hM h0 (vp_in_nI (n := 1) (by decide) (by decide)) dX11_done_6 ?_
  rw [show (1 : Int32).toNatClampNeg = 1 from rfl]
  rw [show (eqF u9) 1 = u9.2.1 from rfl]
  refine lv_istore_n (lv' := [(3, .int u9.2.1), (2, .int u9.1), (0, .int (nI k)), (1, .ref y)]) hx hb dX11_done_7 rfl hl (by decide) rfl (fun ls hl => ?_)
  refine lv_aload_n hx hb dX11_done_8 rfl (lv_at hl 3 rfl) ?_
  refine lv_iconst (v := 2) hx hb dX11_done_9 (by decide) ?_
  refine mq_iald hx hb hK hM h0 (vp_in_nI (n := 2) (by decide) (by decide)) dX11_done_10 ?_
  rw [show (2 : Int32).toNatClampNeg = 2 from rfl]
  rw [show (eqF u9) 2 = u9.2.2.1 from rfl]
  refine lv_istore (lv' := [(4, .int u9.2.2.1), (3, .int u9.2.1), (2, .int u9.1), (0, .int (nI k)), (1, .ref y)]) hx hb dX11_done_11 hl (by decide) rfl (fun ls hl => ?_)
  refine lv_aload_n hx hb dX11_done_13 rfl (lv_at hl 4 rfl) ?_
  refine lv_iconst (v := 3) hx hb dX11_done_14 (by decide) ?_
  refine mq_iald hx hb hK hM h0 (vp_in_nI (n := 3) (by decide) (by decide)) dX11_done_15 ?_
  rw [show (3 : Int32).toNatClampNeg = 3 from rfl]
  rw [show (eqF u9) 3 = u9.2.2.2 from rfl]
  refine lv_istore (lv' := [(5, .int u9.2.2.2), (4, .int u9.2.2.1), (3, .int u9.2.1), (2, .int u9.1), (0, .int (nI k)), (1, .ref y)]) hx hb dX11_done_16 hl (by decide) rfl (fun ls hl => ?_)
  have K45 : ∀ (m9 : Bool), (m9 = eq_may u9) → ∀ (H : Heap) (locs : List Loc), mq_W G.1 A f H → va_S A s.heap H locs → ∀ (ls : Array Slot), lv_has ls 7 [(0, .int (nI k)), (2, .int u9.1), (3, .int u9.2.1), (4, .int u9.2.2.1), (5, .int u9.2.2.2), (6, .int (zb m9))] → W p l e (headSpec wsX11_done ({ frames := 1, cells := 1, slots := 4, locals := 24 } : Room)).room s m ([.int (nI k), .ref y] : List Value).toArray below meth c H locs 0 0 (MQ below (mq_Qq G A (fun r g => ∃ q, r = oMap (dnV k u9) q ∧ (∀ y e, f y = some e → g y = some e) ∧ ∀ e, dnV k u9 = some e → g q = some (cIn G 4 (eqF e)))) ([.int (nI k), .ref y] : List Value).toArray s 1 4 A) (F0 m 45 ls []) := by
    intro m9 hm9 H locs hM hS ls hl
    refine lv_iload_n hx hb dX11_done_45 rfl (lv_at hl 0 rfl) ?_
    rcases (show k = 0 ∨ k = 1 ∨ k = 2 ∨ k = 3 ∨ k = 4 ∨ k = 5 ∨ k = 6 ∨ k = 7 ∨ k = 8 ∨ k = 9 by omega) with rfl | rfl | rfl | rfl | rfl | rfl | rfl | rfl | rfl | rfl
    · refine lv_tableIn (off := 54) (tgt := 100) hx hb dX11_done_46 (by decide) (by decide) (by decide) (by decide) ?_
      refine lv_iload_n hx hb dX11_done_100 rfl (lv_at hl 1 rfl) ?_
      refine lv_iconst (v := 0) hx hb dX11_done_101 (by decide) ?_
      refine lv_iload hx hb dX11_done_102 (lv_at hl 3 rfl) ?_
      refine lv_iload hx hb dX11_done_104 (lv_at hl 4 rfl) ?_
      refine lv_iload_n hx hb dX11_done_106 rfl (lv_at hl 2 rfl) ?_
      refine lv_isub hx hb dX11_done_107 ?_
      refine mq_callq (va_runS (As := [.int u9.1, .int 0, .int u9.2.2.1, .int (u9.2.2.2 - u9.2.1)]) (rest := []) ⟨hx, hb, hml, hown, hts⟩ (c_X11_row l G A f u9.1 0 u9.2.2.1 (u9.2.2.2 - u9.2.1)) (va_cwS 4 hts gX11_done_X11_row rfl rfl rfl (by decide +kernel) ⟨Nat.le_of_ble_eq_true rfl, Nat.le_of_ble_eq_true rfl⟩) (mq_preS hK hZ hS hA hM (trivial) _) rfl rfl hl.1 rfl (lv_room (Nat.le_of_ble_eq_true rfl)) dX11_done_108 ⟨Nat.le_of_ble_eq_true rfl, Nat.le_of_ble_eq_true rfl⟩) hS (fun r108 g108 H locs p108 hM hS => ?_)
      refine W.widen (k := 1) (n := 4) (Nat.le_of_ble_eq_true rfl) (Nat.le_of_ble_eq_true rfl) ?_
      obtain ⟨q9, er, hq9, hg9⟩ := p108
      subst er
      exact mq_aret (r := some q9) rfl hx hb hr (Or.inr ⟨_, rfl⟩) hlocks hM hS (⟨q9, by rw [show dnV 0 u9 = some (u9.1, 0, u9.2.2.1, u9.2.2.2 - u9.2.1) from rfl]; rfl, fun y e he => mq_n hg9 he (mq_neN he hq9), fun e he => by rw [show dnV 0 u9 = some (u9.1, 0, u9.2.2.1, u9.2.2.2 - u9.2.1) from rfl] at he; cases he; exact mq_s hg9⟩) dX11_done_111
    · refine lv_tableIn (off := 66) (tgt := 112) hx hb dX11_done_46 (by decide) (by decide) (by decide) (by decide) ?_
      refine lv_iload_n hx hb dX11_done_112 rfl (lv_at hl 1 rfl) ?_
      refine lv_iload hx hb dX11_done_113 (lv_at hl 3 rfl) ?_
      refine lv_isub hx hb dX11_done_115 ?_
      refine lv_iload_n hx hb dX11_done_116 rfl (lv_at hl 2 rfl) ?_
      refine lv_iconst (v := 0) hx hb dX11_done_117 (by decide) ?_
      refine lv_iload hx hb dX11_done_118 (lv_at hl 4 rfl) ?_
      refine mq_callq (va_runS (As := [.int (u9.1 - u9.2.2.1), .int u9.2.1, .int 0, .int u9.2.2.2]) (rest := []) ⟨hx, hb, hml, hown, hts⟩ (c_X11_row l G A f (u9.1 - u9.2.2.1) u9.2.1 0 u9.2.2.2) (va_cwS 4 hts gX11_done_X11_row rfl rfl rfl (by decide +kernel) ⟨Nat.le_of_ble_eq_true rfl, Nat.le_of_ble_eq_true rfl⟩) (mq_preS hK hZ hS hA hM (trivial) _) rfl rfl hl.1 rfl (lv_room (Nat.le_of_ble_eq_true rfl)) dX11_done_120 ⟨Nat.le_of_ble_eq_true rfl, Nat.le_of_ble_eq_true rfl⟩) hS (fun r120 g120 H locs p120 hM hS => ?_)
      refine W.widen (k := 1) (n := 4) (Nat.le_of_ble_eq_true rfl) (Nat.le_of_ble_eq_true rfl) ?_
      obtain ⟨q9, er, hq9, hg9⟩ := p120
      subst er
      exact mq_aret (r := some q9) rfl hx hb hr (Or.inr ⟨_, rfl⟩) hlocks hM hS (⟨q9, by rw [show dnV 1 u9 = some (u9.1 - u9.2.2.1, u9.2.1, 0, u9.2.2.2) from rfl]; rfl, fun y e he => mq_n hg9 he (mq_neN he hq9), fun e he => by rw [show dnV 1 u9 = some (u9.1 - u9.2.2.1, u9.2.1, 0, u9.2.2.2) from rfl] at he; cases he; exact mq_s hg9⟩) dX11_done_123
    · refine lv_tableIn (off := 78) (tgt := 124) hx hb dX11_done_46 (by decide) (by decide) (by decide) (by decide) ?_
      refine lv_iload hx hb dX11_done_124 (lv_at hl 3 rfl) ?_
      refine lv_iload hx hb dX11_done_126 (lv_at hl 4 rfl) ?_
      refine lv_iload_n hx hb dX11_done_128 rfl (lv_at hl 1 rfl) ?_
      refine lv_iload_n hx hb dX11_done_129 rfl (lv_at hl 2 rfl) ?_
      refine mq_callq (va_runS (As := [.int u9.2.2.1, .int u9.2.2.2, .int u9.1, .int u9.2.1]) (rest := []) ⟨hx, hb, hml, hown, hts⟩ (c_X11_row l G A f u9.2.2.1 u9.2.2.2 u9.1 u9.2.1) (va_cwS 4 hts gX11_done_X11_row rfl rfl rfl (by decide +kernel) ⟨Nat.le_of_ble_eq_true rfl, Nat.le_of_ble_eq_true rfl⟩) (mq_preS hK hZ hS hA hM (trivial) _) rfl rfl hl.1 rfl (lv_room (Nat.le_of_ble_eq_true rfl)) dX11_done_130 ⟨Nat.le_of_ble_eq_true rfl, Nat.le_of_ble_eq_true rfl⟩) hS (fun r130 g130 H locs p130 hM hS => ?_)
      refine W.widen (k := 1) (n := 4) (Nat.le_of_ble_eq_true rfl) (Nat.le_of_ble_eq_true rfl) ?_
      obtain ⟨q9, er, hq9, hg9⟩ := p130
      subst er
      exact mq_aret (r := some q9) rfl hx hb hr (Or.inr ⟨_, rfl⟩) hlocks hM hS (⟨q9, by rw [show dnV 2 u9 = some (u9.2.2.1, u9.2.2.2, u9.1, u9.2.1) from rfl]; rfl, fun y e he => mq_n hg9 he (mq_neN he hq9), fun e he => by rw [show dnV 2 u9 = some (u9.2.2.1, u9.2.2.2, u9.1, u9.2.1) from rfl] at he; cases he; exact mq_s hg9⟩) dX11_done_133
    · refine lv_tableIn (off := 88) (tgt := 134) hx hb dX11_done_46 (by decide) (by decide) (by decide) (by decide) ?_
      refine lv_iload_n hx hb dX11_done_134 rfl (lv_at hl 1 rfl) ?_
      refine lv_ineg hx hb dX11_done_135 ?_
      refine lv_iload_n hx hb dX11_done_136 rfl (lv_at hl 2 rfl) ?_
      refine lv_ineg hx hb dX11_done_137 ?_
      refine lv_iload hx hb dX11_done_138 (lv_at hl 3 rfl) ?_
      refine lv_ineg hx hb dX11_done_140 ?_
      refine lv_iload hx hb dX11_done_141 (lv_at hl 4 rfl) ?_
      refine lv_ineg hx hb dX11_done_143 ?_
      refine mq_callq (va_runS (As := [.int (-u9.1), .int (-u9.2.1), .int (-u9.2.2.1), .int (-u9.2.2.2)]) (rest := []) ⟨hx, hb, hml, hown, hts⟩ (c_X11_row l G A f (-u9.1) (-u9.2.1) (-u9.2.2.1) (-u9.2.2.2)) (va_cwS 4 hts gX11_done_X11_row rfl rfl rfl (by decide +kernel) ⟨Nat.le_of_ble_eq_true rfl, Nat.le_of_ble_eq_true rfl⟩) (mq_preS hK hZ hS hA hM (trivial) _) rfl rfl hl.1 rfl (lv_room (Nat.le_of_ble_eq_true rfl)) dX11_done_144 ⟨Nat.le_of_ble_eq_true rfl, Nat.le_of_ble_eq_true rfl⟩) hS (fun r144 g144 H locs p144 hM hS => ?_)
      refine W.widen (k := 1) (n := 4) (Nat.le_of_ble_eq_true rfl) (Nat.le_of_ble_eq_true rfl) ?_
      obtain ⟨q9, er, hq9, hg9⟩ := p144
      subst er
      exact mq_aret (r := some q9) rfl hx hb hr (Or.inr ⟨_, rfl⟩) hlocks hM hS (⟨q9, by rw [show dnV 3 u9 = some (-u9.1, -u9.2.1, -u9.2.2.1, -u9.2.2.2) from rfl]; rfl, fun y e he => mq_n hg9 he (mq_neN he hq9), fun e he => by rw [show dnV 3 u9 = some (-u9.1, -u9.2.1, -u9.2.2.1, -u9.2.2.2) from rfl] at he; cases he; exact mq_s hg9⟩) dX11_done_147
    · refine lv_tableIn (off := 102) (tgt := 148) hx hb dX11_done_46 (by decide) (by decide) (by decide) (by decide) ?_
      refine lv_iload hx hb dX11_done_148 (lv_at hl 5 rfl) ?_
      refine lv_if_eq (tgt := 166) hx hb dX11_done_150 (by decide) (fun c_150 => ?_) (fun c_150 => ?_)
      · replace c_150 : zb m9 = 0 := c_150
        rw [zb_0] at c_150
        refine lv_null hx hb dX11_done_166 ?_
        refine W.widen (k := 1) (n := 4) (Nat.le_of_ble_eq_true rfl) (Nat.le_of_ble_eq_true rfl) ?_
        exact mq_aret (r := none) rfl hx hb hr (Or.inr ⟨_, rfl⟩) hlocks hM hS (⟨0, by rw [dnV_no (by decide) (hm9.symm.trans c_150)]; rfl, fun _ _ he => he, fun e he => by rw [dnV_no (by decide) (hm9.symm.trans c_150)] at he; cases he⟩) dX11_done_167
      · replace c_150 : ¬ zb m9 = 0 := c_150
        rw [zb_n0] at c_150
        refine lv_iconst (v := 1) hx hb dX11_done_153 (by decide) ?_
        refine lv_iconst (v := 0) hx hb dX11_done_154 (by decide) ?_
        refine lv_iconst (v := 0) hx hb dX11_done_155 (by decide) ?_
        refine lv_iload hx hb dX11_done_156 (lv_at hl 4 rfl) ?_
        refine lv_iload_n hx hb dX11_done_158 rfl (lv_at hl 1 rfl) ?_
        refine lv_idiv hx hb dX11_done_159 ((may_3 (hm9.symm.trans c_150)).2.2) ?_
        refine mq_callq (va_runS (As := [.int 1, .int 0, .int 0, .int (u9.2.2.2 / u9.1)]) (rest := []) ⟨hx, hb, hml, hown, hts⟩ (c_X11_row l G A f 1 0 0 (u9.2.2.2 / u9.1)) (va_cwS 4 hts gX11_done_X11_row rfl rfl rfl (by decide +kernel) ⟨Nat.le_of_ble_eq_true rfl, Nat.le_of_ble_eq_true rfl⟩) (mq_preS hK hZ hS hA hM (trivial) _) rfl rfl hl.1 rfl (lv_room (Nat.le_of_ble_eq_true rfl)) dX11_done_160 ⟨Nat.le_of_ble_eq_true rfl, Nat.le_of_ble_eq_true rfl⟩) hS (fun r160 g160 H locs p160 hM hS => ?_)
        refine W.widen (k := 1) (n := 4) (Nat.le_of_ble_eq_true rfl) (Nat.le_of_ble_eq_true rfl) ?_
        obtain ⟨q9, er, hq9, hg9⟩ := p160
        subst er
        refine lv_goto (tgt := 167) hx hb dX11_done_163 (by decide) ?_
        exact mq_aret (r := some q9) rfl hx hb hr (Or.inr ⟨_, rfl⟩) hlocks hM hS (⟨q9, by rw [dnV_4 (hm9.symm.trans c_150)]; rfl, fun y e he => mq_n hg9 he (mq_neN he hq9), fun e he => by rw [dnV_4 (hm9.symm.trans c_150)] at he; cases he; exact mq_s hg9⟩) dX11_done_167
    · refine lv_tableIn (off := 122) (tgt := 168) hx hb dX11_done_46 (by decide) (by decide) (by decide) (by decide) ?_
      refine lv_iload_n hx hb dX11_done_168 rfl (lv_at hl 1 rfl) ?_
      refine lv_iconst (v := 0) hx hb dX11_done_169 (by decide) ?_
      refine lv_iload hx hb dX11_done_170 (lv_at hl 3 rfl) ?_
      refine lv_iload hx hb dX11_done_172 (lv_at hl 4 rfl) ?_
      refine lv_iload_n hx hb dX11_done_174 rfl (lv_at hl 2 rfl) ?_
      refine lv_iadd hx hb dX11_done_175 ?_
      refine mq_callq (va_runS (As := [.int u9.1, .int 0, .int u9.2.2.1, .int (u9.2.2.2 + u9.2.1)]) (rest := []) ⟨hx, hb, hml, hown, hts⟩ (c_X11_row l G A f u9.1 0 u9.2.2.1 (u9.2.2.2 + u9.2.1)) (va_cwS 4 hts gX11_done_X11_row rfl rfl rfl (by decide +kernel) ⟨Nat.le_of_ble_eq_true rfl, Nat.le_of_ble_eq_true rfl⟩) (mq_preS hK hZ hS hA hM (trivial) _) rfl rfl hl.1 rfl (lv_room (Nat.le_of_ble_eq_true rfl)) dX11_done_176 ⟨Nat.le_of_ble_eq_true rfl, Nat.le_of_ble_eq_true rfl⟩) hS (fun r176 g176 H locs p176 hM hS => ?_)
      refine W.widen (k := 1) (n := 4) (Nat.le_of_ble_eq_true rfl) (Nat.le_of_ble_eq_true rfl) ?_
      obtain ⟨q9, er, hq9, hg9⟩ := p176
      subst er
      exact mq_aret (r := some q9) rfl hx hb hr (Or.inr ⟨_, rfl⟩) hlocks hM hS (⟨q9, by rw [show dnV 5 u9 = some (u9.1, 0, u9.2.2.1, u9.2.2.2 + u9.2.1) from rfl]; rfl, fun y e he => mq_n hg9 he (mq_neN he hq9), fun e he => by rw [show dnV 5 u9 = some (u9.1, 0, u9.2.2.1, u9.2.2.2 + u9.2.1) from rfl] at he; cases he; exact mq_s hg9⟩) dX11_done_179
    · refine lv_tableIn (off := 134) (tgt := 180) hx hb dX11_done_46 (by decide) (by decide) (by decide) (by decide) ?_
      refine lv_iload_n hx hb dX11_done_180 rfl (lv_at hl 1 rfl) ?_
      refine lv_iload hx hb dX11_done_181 (lv_at hl 3 rfl) ?_
      refine lv_iadd hx hb dX11_done_183 ?_
      refine lv_iload_n hx hb dX11_done_184 rfl (lv_at hl 2 rfl) ?_
      refine lv_iconst (v := 0) hx hb dX11_done_185 (by decide) ?_
      refine lv_iload hx hb dX11_done_186 (lv_at hl 4 rfl) ?_
      refine mq_callq (va_runS (As := [.int (u9.1 + u9.2.2.1), .int u9.2.1, .int 0, .int u9.2.2.2]) (rest := []) ⟨hx, hb, hml, hown, hts⟩ (c_X11_row l G A f (u9.1 + u9.2.2.1) u9.2.1 0 u9.2.2.2) (va_cwS 4 hts gX11_done_X11_row rfl rfl rfl (by decide +kernel) ⟨Nat.le_of_ble_eq_true rfl, Nat.le_of_ble_eq_true rfl⟩) (mq_preS hK hZ hS hA hM (trivial) _) rfl rfl hl.1 rfl (lv_room (Nat.le_of_ble_eq_true rfl)) dX11_done_188 ⟨Nat.le_of_ble_eq_true rfl, Nat.le_of_ble_eq_true rfl⟩) hS (fun r188 g188 H locs p188 hM hS => ?_)
      refine W.widen (k := 1) (n := 4) (Nat.le_of_ble_eq_true rfl) (Nat.le_of_ble_eq_true rfl) ?_
      obtain ⟨q9, er, hq9, hg9⟩ := p188
      subst er
      exact mq_aret (r := some q9) rfl hx hb hr (Or.inr ⟨_, rfl⟩) hlocks hM hS (⟨q9, by rw [show dnV 6 u9 = some (u9.1 + u9.2.2.1, u9.2.1, 0, u9.2.2.2) from rfl]; rfl, fun y e he => mq_n hg9 he (mq_neN he hq9), fun e he => by rw [show dnV 6 u9 = some (u9.1 + u9.2.2.1, u9.2.1, 0, u9.2.2.2) from rfl] at he; cases he; exact mq_s hg9⟩) dX11_done_191
    · refine lv_tableIn (off := 176) (tgt := 222) hx hb dX11_done_46 (by decide) (by decide) (by decide) (by decide) ?_
      refine lv_null hx hb dX11_done_222 ?_
      refine W.widen (k := 1) (n := 4) (Nat.le_of_ble_eq_true rfl) (Nat.le_of_ble_eq_true rfl) ?_
      exact mq_aret (r := none) rfl hx hb hr (Or.inr ⟨_, rfl⟩) hlocks hM hS (⟨0, by rw [show dnV 7 u9 = none from rfl]; rfl, fun _ _ he => he, fun e he => by rw [show dnV 7 u9 = none from rfl] at he; cases he⟩) dX11_done_223
    · refine lv_tableIn (off := 146) (tgt := 192) hx hb dX11_done_46 (by decide) (by decide) (by decide) (by decide) ?_
      refine lv_iload_n hx hb dX11_done_192 rfl (lv_at hl 1 rfl) ?_
      refine lv_ineg hx hb dX11_done_193 ?_
      refine lv_iload_n hx hb dX11_done_194 rfl (lv_at hl 2 rfl) ?_
      refine lv_ineg hx hb dX11_done_195 ?_
      refine lv_iload hx hb dX11_done_196 (lv_at hl 3 rfl) ?_
      refine lv_iload hx hb dX11_done_198 (lv_at hl 4 rfl) ?_
      refine mq_callq (va_runS (As := [.int (-u9.1), .int (-u9.2.1), .int u9.2.2.1, .int u9.2.2.2]) (rest := []) ⟨hx, hb, hml, hown, hts⟩ (c_X11_row l G A f (-u9.1) (-u9.2.1) u9.2.2.1 u9.2.2.2) (va_cwS 4 hts gX11_done_X11_row rfl rfl rfl (by decide +kernel) ⟨Nat.le_of_ble_eq_true rfl, Nat.le_of_ble_eq_true rfl⟩) (mq_preS hK hZ hS hA hM (trivial) _) rfl rfl hl.1 rfl (lv_room (Nat.le_of_ble_eq_true rfl)) dX11_done_200 ⟨Nat.le_of_ble_eq_true rfl, Nat.le_of_ble_eq_true rfl⟩) hS (fun r200 g200 H locs p200 hM hS => ?_)
      refine W.widen (k := 1) (n := 4) (Nat.le_of_ble_eq_true rfl) (Nat.le_of_ble_eq_true rfl) ?_
      obtain ⟨q9, er, hq9, hg9⟩ := p200
      subst er
      exact mq_aret (r := some q9) rfl hx hb hr (Or.inr ⟨_, rfl⟩) hlocks hM hS (⟨q9, by rw [show dnV 8 u9 = some (-u9.1, -u9.2.1, u9.2.2.1, u9.2.2.2) from rfl]; rfl, fun y e he => mq_n hg9 he (mq_neN he hq9), fun e he => by rw [show dnV 8 u9 = some (-u9.1, -u9.2.1, u9.2.2.1, u9.2.2.2) from rfl] at he; cases he; exact mq_s hg9⟩) dX11_done_203
    · refine lv_tableIn (off := 158) (tgt := 204) hx hb dX11_done_46 (by decide) (by decide) (by decide) (by decide) ?_
      refine lv_iload hx hb dX11_done_204 (lv_at hl 5 rfl) ?_
      refine lv_if_eq (tgt := 220) hx hb dX11_done_206 (by decide) (fun c_206 => ?_) (fun c_206 => ?_)
      · replace c_206 : zb m9 = 0 := c_206
        rw [zb_0] at c_206
        refine lv_null hx hb dX11_done_220 ?_
        refine W.widen (k := 1) (n := 4) (Nat.le_of_ble_eq_true rfl) (Nat.le_of_ble_eq_true rfl) ?_
        exact mq_aret (r := none) rfl hx hb hr (Or.inr ⟨_, rfl⟩) hlocks hM hS (⟨0, by rw [dnV_no (by decide) (hm9.symm.trans c_206)]; rfl, fun _ _ he => he, fun e he => by rw [dnV_no (by decide) (hm9.symm.trans c_206)] at he; cases he⟩) dX11_done_221
      · replace c_206 : ¬ zb m9 = 0 := c_206
        rw [zb_n0] at c_206
        refine lv_iconst (v := 1) hx hb dX11_done_209 (by decide) ?_
        refine lv_iconst (v := 0) hx hb dX11_done_210 (by decide) ?_
        refine lv_iconst (v := 0) hx hb dX11_done_211 (by decide) ?_
        refine lv_iload hx hb dX11_done_212 (lv_at hl 4 rfl) ?_
        refine mq_callq (va_runS (As := [.int 1, .int 0, .int 0, .int u9.2.2.2]) (rest := []) ⟨hx, hb, hml, hown, hts⟩ (c_X11_row l G A f 1 0 0 u9.2.2.2) (va_cwS 4 hts gX11_done_X11_row rfl rfl rfl (by decide +kernel) ⟨Nat.le_of_ble_eq_true rfl, Nat.le_of_ble_eq_true rfl⟩) (mq_preS hK hZ hS hA hM (trivial) _) rfl rfl hl.1 rfl (lv_room (Nat.le_of_ble_eq_true rfl)) dX11_done_214 ⟨Nat.le_of_ble_eq_true rfl, Nat.le_of_ble_eq_true rfl⟩) hS (fun r214 g214 H locs p214 hM hS => ?_)
        refine W.widen (k := 1) (n := 4) (Nat.le_of_ble_eq_true rfl) (Nat.le_of_ble_eq_true rfl) ?_
        obtain ⟨q9, er, hq9, hg9⟩ := p214
        subst er
        refine lv_goto (tgt := 221) hx hb dX11_done_217 (by decide) ?_
        exact mq_aret (r := some q9) rfl hx hb hr (Or.inr ⟨_, rfl⟩) hlocks hM hS (⟨q9, by rw [dnV_9 (hm9.symm.trans c_206)]; rfl, fun y e he => mq_n hg9 he (mq_neN he hq9), fun e he => by rw [dnV_9 (hm9.symm.trans c_206)] at he; cases he; exact mq_s hg9⟩) dX11_done_221
  refine lv_iload_n hx hb dX11_done_18 rfl (lv_at hl 2 rfl) ?_
  refine lv_if_ne (tgt := 42) hx hb dX11_done_19 (by decide) (fun c_19 => ?_) (fun c_19 => ?_)
  · refine lv_iconst (v := 0) hx hb dX11_done_42 (by decide) ?_
    refine lv_istore (lv' := [(6, .int 0), (5, .int u9.2.2.2), (4, .int u9.2.2.1), (3, .int u9.2.1), (2, .int u9.1), (0, .int (nI k)), (1, .ref y)]) hx hb dX11_done_43 hl (by decide) rfl (fun ls hl => ?_)
    exact K45 false (by simp [eq_may, c_19]) _ _ hM hS _ (lv_sub hl [5, 4, 3, 2, 1, 0] rfl)
  · refine lv_iload hx hb dX11_done_22 (lv_at hl 1 rfl) ?_
    refine lv_if_ne (tgt := 42) hx hb dX11_done_24 (by decide) (fun c_24 => ?_) (fun c_24 => ?_)
    · refine lv_iconst (v := 0) hx hb dX11_done_42 (by decide) ?_
      refine lv_istore (lv' := [(6, .int 0), (5, .int u9.2.2.2), (4, .int u9.2.2.1), (3, .int u9.2.1), (2, .int u9.1), (0, .int (nI k)), (1, .ref y)]) hx hb dX11_done_43 hl (by decide) rfl (fun ls hl => ?_)
      exact K45 false (by simp [eq_may, c_19, c_24]) _ _ hM hS _ (lv_sub hl [5, 4, 3, 2, 1, 0] rfl)
    · refine lv_iload_n hx hb dX11_done_27 rfl (lv_at hl 3 rfl) ?_
      refine lv_if_eq (tgt := 42) hx hb dX11_done_28 (by decide) (fun c_28 => ?_) (fun c_28 => ?_)
      · refine lv_iconst (v := 0) hx hb dX11_done_42 (by decide) ?_
        refine lv_istore (lv' := [(6, .int 0), (5, .int u9.2.2.2), (4, .int u9.2.2.1), (3, .int u9.2.1), (2, .int u9.1), (0, .int (nI k)), (1, .ref y)]) hx hb dX11_done_43 hl (by decide) rfl (fun ls hl => ?_)
        exact K45 false (by simp [eq_may, c_19, c_24, c_28]) _ _ hM hS _ (lv_sub hl [5, 4, 3, 2, 1, 0] rfl)
      · refine lv_iload hx hb dX11_done_31 (lv_at hl 0 rfl) ?_
        refine lv_iload_n hx hb dX11_done_33 rfl (lv_at hl 3 rfl) ?_
        refine lv_irem hx hb dX11_done_34 (c_28) ?_
        refine lv_if_ne (tgt := 42) hx hb dX11_done_35 (by decide) (fun c_35 => ?_) (fun c_35 => ?_)
        · refine lv_iconst (v := 0) hx hb dX11_done_42 (by decide) ?_
          refine lv_istore (lv' := [(6, .int 0), (5, .int u9.2.2.2), (4, .int u9.2.2.1), (3, .int u9.2.1), (2, .int u9.1), (0, .int (nI k)), (1, .ref y)]) hx hb dX11_done_43 hl (by decide) rfl (fun ls hl => ?_)
          exact K45 false (by simp [eq_may, c_19, c_24, c_28, c_35]) _ _ hM hS _ (lv_sub hl [5, 4, 3, 2, 1, 0] rfl)
        · refine lv_iconst (v := 1) hx hb dX11_done_38 (by decide) ?_
          refine lv_goto (tgt := 43) hx hb dX11_done_39 (by decide) ?_
          refine lv_istore (lv' := [(6, .int 1), (5, .int u9.2.2.2), (4, .int u9.2.2.1), (3, .int u9.2.1), (2, .int u9.1), (0, .int (nI k)), (1, .ref y)]) hx hb dX11_done_43 hl (by decide) rfl (fun ls hl => ?_)
          exact K45 true (by simp [eq_may, c_19, c_24, c_28, c_35]) _ _ hM hS _ (lv_sub hl [5, 4, 3, 2, 1, 0] rfl)

set_option maxHeartbeats 4000000 in
set_option maxRecDepth 100000 in
theorem c_X11_hint (l : Launch) (G : mq_G) (A : Nat → Prop) (f : mq_F) (ad : AD) (S : AT) (X : CX) (S2 : AT) (Y : MX) (O : OX) (T : Nat) (ui : Int32) : Met l yX11_hint wsX11_hint ({ frames := 11, cells := 4, slots := 15, locals := 206 } : Room) (mq_Pc G A f (WR G f ad S X S2 Y O ∧ mOK S2 Y T) [.ref (ad 20 0 0), .int ui]) (mq_Qi G A (fun r g => ∃ c9 S9 Y9 ad9, spHint S2 ui = (c9, r, S9) ∧ WR G g ad9 S X S9 (yThr Y9 (nI c9)) O ∧ mCp S9 Y9 ∧ adK ad ad9)) 4 15 A := by
  refine Met.ofW (cc := cX11_hint) (maxL := 9) (ret := (some .int)) (by decide) rfl ?_
  intro p e s m args below meth c s₁ B hml hv
  obtain ⟨rfl, ⟨hK, hZ, hM, hA⟩, hp⟩ := hv
  have hx := B.exec
  have hb := B.bytes
  have hr := B.returns
  have hts := atoms_spec (ws := wsX11_hint) B.pre
  have hown : s.vm.findClass RX11 = some m.cls := findClass_of_methodNamed B.named
  have hlocks := B.notSynchronized
  have hS : va_S A s.heap s.heap [] := va_S.rf
  have hl := lv_entry ([.ref (ad 20 0 0), .int ui]) (n := 9) (Nat.le_of_ble_eq_true rfl)
  rw [lg_entry_eq]
  generalize (lg_sl ([.ref (ad 20 0 0), .int ui]) ++ List.replicate (9 - (lg_sl ([.ref (ad 20 0 0), .int ui])).length) Slot.unset).toArray = ls at hl ⊢
  have hl : lv_has ls 9 [(0, .ref (ad 20 0 0)), (1, .int ui)] := hl
  have w0 := hts (.fieldLink RX11 19 "TutorlightModel" "thrown" "I") (List.mem_of_getElem? (i := 1) rfl)
  have w1 := hts (.fieldLink RX11 16 "TutorlightModel" "learners" "Ljava/util/ArrayList;") (List.mem_of_getElem? (i := 2) rfl)
  have w2 := hts (.classLink RX11 46 "TutorlightModel$Learner") (List.mem_of_getElem? (i := 3) rfl)
  have w3 := hts (.fieldLink RX11 194 "TutorlightModel$Learner" "hints" "I") (List.mem_of_getElem? (i := 4) rfl)
  have w4 := hts (.arrayClass .int) (List.mem_of_getElem? (i := 5) rfl)
  have w5 := hts (.fieldLink RX11 186 "TutorlightModel$Learner" "equation" "[I") (List.mem_of_getElem? (i := 6) rfl)
  have nX11 : ∀ w ∈ wsX110, w ∈ wsX11_hint := fun _ h => List.mem_cons_of_mem _ (List.mem_append_left _ (List.mem_append_left _ (List.mem_append_left _ (List.mem_append_left _ (List.mem_append_right _ h)))))
  have nX9 : ∀ w ∈ wsX90, w ∈ wsX11_hint := fun _ h => List.mem_cons_of_mem _ (List.mem_append_left _ (List.mem_append_left _ (List.mem_append_left _ (List.mem_append_right _ h))))
  obtain ⟨hR, hO⟩ := hp
  obtain ⟨⟨X9, ⟨hn, hl4, hd2, hT⟩, hsk, hma, hdc, hle, -⟩, ⟨hns, hnc⟩, ⟨hls, hlc⟩, hac, hmc⟩ := id hO
  have y20_288 := hR.1 _ _ _ _ (t20)
  refine lv_aload_n hx hb dX11_hint_0 rfl (lv_at hl 0 rfl) ?_
  refine lv_iconst (v := 0) hx hb dX11_hint_1 (by decide) ?_
  refine mq_put (ci := 16) (v := .int 0) (ty := .int) (C := RX11) (T := TX11) (N := 4) (fs' := [.int 0, .int (nI (aD S2)), .ref (ad 21 0 0), .ref (ad 23 0 0)]) hx hb hts nX11 tyX11 tyX11_ok nmX11 hown hK hM hS y20_288 rfl 0 (by decide) w0 (fun _ h9 => h9) rfl (by decide +kernel) rfl rfl (Nat.le_of_ble_eq_true rfl) dX11_hint_2 rfl (fun f_1 H locs e_2 hM hS => ?_)
  have h_3 : f_1 (ad 20 0 0) = some (.inr (16, [.int 0, .int (nI (aD S2)), .ref (ad 21 0 0), .ref (ad 23 0 0)])) := mq_s e_2
  have hR1 := WR_yt hR e_2
  refine lv_aload_n hx hb dX11_hint_5 rfl (lv_at hl 0 rfl) ?_
  have y23_284 := hR1.1 _ _ _ _ (t23)
  refine lv_aload_n hx hb dX11_hint_6 rfl (lv_at hl 0 rfl) ?_
  refine lv_iload_n hx hb dX11_hint_7 rfl (lv_at hl 1 rfl) ?_
  refine mq_calli (va_runV (As := [.int ui]) (rest := [.ref (ad 20 0 0)]) ⟨hx, hb, hml, hown, hts⟩ (c_X11_noLearner l G A f_1 (ad 20 0 0) (ad 23 0 0) ui 0 (nI (aD S2)) (ad 21 0 0) (lsD G (yL Y).2 (ad 24 0 0)) (aL S2) (yL Y).1) (cwV 1 hts gX11_hint_X11_noLearner rfl rfl rfl (by decide +kernel) ⟨Nat.le_of_ble_eq_true rfl, Nat.le_of_ble_eq_true rfl⟩) (mq_preV hK hZ hS hA hM (q := (RX11, TX11, 4)) h_3 rfl (⟨h_3, y23_284, by omega⟩) _) rfl rfl hl.1 rfl (lv_room (Nat.le_of_ble_eq_true rfl)) dX11_hint_8 ⟨Nat.le_of_ble_eq_true rfl, Nat.le_of_ble_eq_true rfl⟩) hS (fun r8 g8 H locs p8 hM hS => ?_)
  refine W.widen (k := 0) (n := 0) (Nat.le_of_ble_eq_true rfl) (Nat.le_of_ble_eq_true rfl) ?_
  obtain ⟨rfl, rfl⟩ := p8
  refine lv_iconst (v := 1) hx hb dX11_hint_11 (by decide) ?_
  refine mq_calli (va_runV (As := [.int (zb (!vI ui (aL S2))), .int 1]) (rest := []) ⟨hx, hb, hml, hown, hts⟩ (c_X11_fails l G A f_1 (ad 20 0 0) (!vI ui (aL S2)) 1 0 (nI (aD S2)) (ad 21 0 0) (ad 23 0 0)) (cwV 2 hts gX11_hint_X11_fails rfl rfl rfl (by decide +kernel) ⟨Nat.le_of_ble_eq_true rfl, Nat.le_of_ble_eq_true rfl⟩) (mq_preV hK hZ hS hA hM (q := (RX11, TX11, 4)) h_3 rfl (h_3) _) rfl rfl hl.1 rfl (lv_room (Nat.le_of_ble_eq_true rfl)) dX11_hint_12 ⟨Nat.le_of_ble_eq_true rfl, Nat.le_of_ble_eq_true rfl⟩) hS (fun r12 g12 H locs p12 hM hS => ?_)
  refine W.widen (k := 0) (n := 0) (Nat.le_of_ble_eq_true rfl) (Nat.le_of_ble_eq_true rfl) ?_
  refine lv_if_ne (tgt := 27) hx hb dX11_hint_15 (by decide) (fun c_15 => ?_) (fun c_15 => ?_)
  · obtain ⟨hv9, hg⟩ := fl_n p12 c_15
    refine lv_iconst (v := 0) hx hb dX11_hint_27 (by decide) ?_
    refine W.widen (k := 4) (n := 15) (Nat.le_of_ble_eq_true rfl) (Nat.le_of_ble_eq_true rfl) ?_
    exact mq_iret (v := 0) hx hb hr hlocks hM hS (⟨1, S2, Y, ad, spL_n (fun q => absurd (vI_iff.mpr q) (by rw [hv9]; decide)), (by have q9 := WR_yt hR1 hg; exact q9), hO.2, adK_id⟩) dX11_hint_28
  · obtain ⟨hv9, rfl⟩ := fl_y h_3 p12 (by decide) c_15
    obtain ⟨j, hj, rfl⟩ := vI_ex1 hv9
    refine lv_aload_n hx hb dX11_hint_18 rfl (lv_at hl 0 rfl) ?_
    refine lv_iload_n hx hb dX11_hint_19 rfl (lv_at hl 1 rfl) ?_
    refine lv_iconst (v := 2) hx hb dX11_hint_20 (by decide) ?_
    refine mq_calli (va_runV (As := [.int (nI j), .int 2]) (rest := []) ⟨hx, hb, hml, hown, hts⟩ (c_X11_noExercise l G A f_1 ad S X S2 (yThr Y 0) O T j 2) (cwV 2 hts gX11_hint_X11_noExercise rfl rfl rfl (by decide +kernel) ⟨Nat.le_of_ble_eq_true rfl, Nat.le_of_ble_eq_true rfl⟩) (mq_preV hK hZ hS hA hM (q := (RX11, TX11, 4)) h_3 rfl (⟨hR1, hO.thr 0, hj, rfl⟩) _) rfl rfl hl.1 rfl (lv_room (Nat.le_of_ble_eq_true rfl)) dX11_hint_21 ⟨Nat.le_of_ble_eq_true rfl, Nat.le_of_ble_eq_true rfl⟩) hS (fun r21 g21 H locs p21 hM hS => ?_)
    refine W.widen (k := 0) (n := 0) (Nat.le_of_ble_eq_true rfl) (Nat.le_of_ble_eq_true rfl) ?_
    refine lv_if_eq (tgt := 29) hx hb dX11_hint_24 (by decide) (fun c_24 => ?_) (fun c_24 => ?_)
    · obtain ⟨e9, he9, rfl⟩ := nx_0 p21 (by decide) c_24
      obtain ⟨x1, x2, x3, x4, x5⟩ := (hle j hj).1 e9 he9
      have hcl : (yL Y).2 ≠ 0 := by omega
      have w27 := hR1.1 _ _ _ _ (t27 (j := j) hj)
      rw [he9] at w27
      have y27e : f_1 (ad 27 j 0) = some (.inr (14, [.ref (ad 28 j 0), .ref (ad 32 j 0), .ref (ad 35 j 0), .int (nI (e9.1)), .int (nI (e9.2.2.2.1)), .int (nI (e9.2.2.2.2)), va_rf (oMap (lWs (aE S2 j)) (ad 36 j 0)), va_rf (oMap (lWs (aE S2 j)) (ad 37 j 0))])) := w27
      have y123_285 := hR1.1 _ _ _ _ (t123 hcl)
      have y24_286 := hR1.1 _ _ _ _ (t24 hcl)
      have y35_287 := hR1.1 _ _ _ _ (t35 (j := j) hj he9)
      refine lv_aload_n hx hb dX11_hint_29 rfl (lv_at hl 0 rfl) ?_
      refine mq_get (ci := 16) (v := .ref (ad 23 0 0)) (C := RX11) (T := TX11) (N := 4) hx hb hts nX11 hown hK hM h_3 rfl 3 (by decide) w1 (fun _ h9 => h9) rfl dX11_hint_30 ?_
      refine lv_iload_n hx hb dX11_hint_33 rfl (lv_at hl 1 rfl) ?_
      refine mq_callq (va_runV (As := [.int (nI j)]) (rest := []) ⟨hx, hb, hml, hown, hts⟩ (c_Jx4a65c_get_915e3 l G A f_1 (ad 23 0 0) (yL Y).1 (ad 24 0 0) (yL Y).2 (aL S2) j (fun i => ad 27 i 0)) (cwV 1 hts gX11_hint_Jx4a65c_get_915e3 rfl rfl rfl (by decide +kernel) ⟨Nat.le_of_ble_eq_true rfl, Nat.le_of_ble_eq_true rfl⟩) (mq_preV hK hZ hS hA hM (q := (RJx4a65c, TJx4a65c, 3)) y123_285 rfl (⟨y123_285, y24_286, hj, hls, by omega⟩) _) rfl rfl hl.1 rfl (lv_room (Nat.le_of_ble_eq_true rfl)) dX11_hint_34 ⟨Nat.le_of_ble_eq_true rfl, Nat.le_of_ble_eq_true rfl⟩) hS (fun r34 g34 H locs p34 hM hS => ?_)
      refine W.widen (k := 0) (n := 0) (Nat.le_of_ble_eq_true rfl) (Nat.le_of_ble_eq_true rfl) ?_
      obtain ⟨rfl, rfl⟩ := p34
      refine mq_castG hx hb hown w2 (mq_recv hK hM y27e rfl) dX11_hint_37 ?_
      refine lv_astore_n (lv' := [(2, .ref (ad 27 j 0)), (0, .ref (ad 20 0 0)), (1, .int (nI j))]) hx hb dX11_hint_40 rfl hl (by decide) rfl (fun ls hl => ?_)
      refine lv_aload_n hx hb dX11_hint_41 rfl (lv_at hl 0 rfl) ?_
      refine lv_dup hx hb dX11_hint_42 rfl ?_
      refine mq_get (ci := 14) (v := .int (nI (e9.2.2.2.2))) (C := RX9) (T := TX9) (N := 8) hx hb hts nX9 hown hK hM y27e rfl 5 (by decide) w3 (fun _ h9 => h9) rfl dX11_hint_43 ?_
      refine lv_iconst (v := 1) hx hb dX11_hint_46 (by decide) ?_
      refine lv_iadd hx hb dX11_hint_47 ?_
      rw [show (nI (e9.2.2.2.2)) + 1 = nI (e9.2.2.2.2 + 1) from nI_add _ _]
      refine mq_put (ci := 14) (v := .int (nI (e9.2.2.2.2 + 1))) (ty := .int) (C := RX9) (T := TX9) (N := 8) (fs' := [.ref (ad 28 j 0), .ref (ad 32 j 0), .ref (ad 35 j 0), .int (nI (e9.1)), .int (nI (e9.2.2.2.1)), .int (nI (e9.2.2.2.2 + 1)), va_rf (oMap (lWs (aE S2 j)) (ad 36 j 0)), va_rf (oMap (lWs (aE S2 j)) (ad 37 j 0))]) hx hb hts nX9 tyX9 tyX9_ok nmX9 hown hK hM hS y27e rfl 5 (by decide) w3 (fun _ h9 => h9) rfl (by decide +kernel) rfl rfl (Nat.le_of_ble_eq_true rfl) dX11_hint_48 rfl (fun f_4 H locs e_5 hM hS => ?_)
      have h_6 : f_4 (ad 20 0 0) = some (.inr (16, [.int 0, .int (nI (aD S2)), .ref (ad 21 0 0), .ref (ad 23 0 0)])) := mq_n e_5 h_3 (mq_neO h_3 y27e (by decide))
      have h_7 : f_4 (ad 23 0 0) = some (.inr (4, [.int ((yL Y).1), .ref (ad 24 0 0), .int (nI (aL S2))])) := mq_n e_5 y123_285 (mq_neO y123_285 y27e (by decide))
      have h_8 : f_4 (ad 24 0 0) = some (.inl (G.2 8, (yL Y).2, .inr (.inr (.inr (.inr (rf_of (aL S2) (fun i => ad 27 i 0))))))) := mq_n e_5 y24_286 (mq_neB y24_286 y27e)
      have h_9 : f_4 (ad 35 j 0) = some (.inl (G.2 0, 4, .inl (eqF e9.2.2.1))) := mq_n e_5 y35_287 (mq_neB y35_287 y27e)
      have h_10 : f_4 (ad 27 j 0) = some (.inr (14, [.ref (ad 28 j 0), .ref (ad 32 j 0), .ref (ad 35 j 0), .int (nI (e9.1)), .int (nI (e9.2.2.2.1)), .int (nI (e9.2.2.2.2 + 1)), va_rf (oMap (lWs (aE S2 j)) (ad 36 j 0)), va_rf (oMap (lWs (aE S2 j)) (ad 37 j 0))])) := mq_s e_5
      have hR5 := WR_exR hR1 e9.2.2.2.1 (e9.2.2.2.2 + 1) hj he9 e_5
      refine lv_iconst (v := 3) hx hb dX11_hint_51 (by decide) ?_
      refine mq_newI (N' := 3) hx hb w4 hK hM hS hA (by decide) (rfl) (Nat.le_of_ble_eq_true rfl) (Nat.le_of_ble_eq_true rfl) (Nat.le_of_ble_eq_true rfl) dX11_hint_52 (fun q52 f_11 H hq52 e_12 hM hS => ?_)
      refine W.widen (k := 1) (n := 3) (Nat.le_of_ble_eq_true rfl) (Nat.le_of_ble_eq_true rfl) ?_
      have h_13 : f_11 (ad 20 0 0) = some (.inr (16, [.int 0, .int (nI (aD S2)), .ref (ad 21 0 0), .ref (ad 23 0 0)])) := mq_n e_12 h_6 (mq_neN h_6 hq52)
      have h_14 : f_11 (ad 23 0 0) = some (.inr (4, [.int ((yL Y).1), .ref (ad 24 0 0), .int (nI (aL S2))])) := mq_n e_12 h_7 (mq_neN h_7 hq52)
      have h_15 : f_11 (ad 24 0 0) = some (.inl (G.2 8, (yL Y).2, .inr (.inr (.inr (.inr (rf_of (aL S2) (fun i => ad 27 i 0))))))) := mq_n e_12 h_8 (mq_neN h_8 hq52)
      have h_16 : f_11 (ad 35 j 0) = some (.inl (G.2 0, 4, .inl (eqF e9.2.2.1))) := mq_n e_12 h_9 (mq_neN h_9 hq52)
      have h_17 : f_11 (ad 27 j 0) = some (.inr (14, [.ref (ad 28 j 0), .ref (ad 32 j 0), .ref (ad 35 j 0), .int (nI (e9.1)), .int (nI (e9.2.2.2.1)), .int (nI (e9.2.2.2.2 + 1)), va_rf (oMap (lWs (aE S2 j)) (ad 36 j 0)), va_rf (oMap (lWs (aE S2 j)) (ad 37 j 0))])) := mq_n e_12 h_10 (mq_neN h_10 hq52)
      have h_18 : f_11 q52 = some (.inl (G.2 0, 3, .inl (fun _ => 0))) := mq_s e_12
      refine lv_dup hx hb dX11_hint_54 rfl ?_
      refine lv_iconst (v := 0) hx hb dX11_hint_55 (by decide) ?_
      refine lv_iconst (v := 1) hx hb dX11_hint_56 (by decide) ?_
      refine mq_iast hx hb hK hM hS h_18 (vp_in_nI (n := 0) (by decide) (by decide)) dX11_hint_57 (fun f_19 H locs e_20 hM hS => ?_)
      rw [show (0 : Int32).toNatClampNeg = 0 from rfl] at e_20
      have h_21 : f_19 (ad 20 0 0) = some (.inr (16, [.int 0, .int (nI (aD S2)), .ref (ad 21 0 0), .ref (ad 23 0 0)])) := mq_n e_20 h_13 (mq_neN h_6 hq52)
      have h_22 : f_19 (ad 23 0 0) = some (.inr (4, [.int ((yL Y).1), .ref (ad 24 0 0), .int (nI (aL S2))])) := mq_n e_20 h_14 (mq_neN h_7 hq52)
      have h_23 : f_19 (ad 24 0 0) = some (.inl (G.2 8, (yL Y).2, .inr (.inr (.inr (.inr (rf_of (aL S2) (fun i => ad 27 i 0))))))) := mq_n e_20 h_15 (mq_neN h_8 hq52)
      have h_24 : f_19 (ad 35 j 0) = some (.inl (G.2 0, 4, .inl (eqF e9.2.2.1))) := mq_n e_20 h_16 (mq_neN h_9 hq52)
      have h_25 : f_19 (ad 27 j 0) = some (.inr (14, [.ref (ad 28 j 0), .ref (ad 32 j 0), .ref (ad 35 j 0), .int (nI (e9.1)), .int (nI (e9.2.2.2.1)), .int (nI (e9.2.2.2.2 + 1)), va_rf (oMap (lWs (aE S2 j)) (ad 36 j 0)), va_rf (oMap (lWs (aE S2 j)) (ad 37 j 0))])) := mq_n e_20 h_17 (mq_neN h_10 hq52)
      have h_26 : f_19 q52 = some (.inl (G.2 0, 3, .inl (upd (fun _ => 0) 0 1))) := mq_s e_20
      refine lv_dup hx hb dX11_hint_58 rfl ?_
      refine lv_iconst (v := 1) hx hb dX11_hint_59 (by decide) ?_
      refine lv_iconst (v := 0) hx hb dX11_hint_60 (by decide) ?_
      refine mq_iast hx hb hK hM hS h_26 (vp_in_nI (n := 1) (by decide) (by decide)) dX11_hint_61 (fun f_27 H locs e_28 hM hS => ?_)
      rw [show (1 : Int32).toNatClampNeg = 1 from rfl] at e_28
      have h_29 : f_27 (ad 20 0 0) = some (.inr (16, [.int 0, .int (nI (aD S2)), .ref (ad 21 0 0), .ref (ad 23 0 0)])) := mq_n e_28 h_21 (mq_neN h_6 hq52)
      have h_30 : f_27 (ad 23 0 0) = some (.inr (4, [.int ((yL Y).1), .ref (ad 24 0 0), .int (nI (aL S2))])) := mq_n e_28 h_22 (mq_neN h_7 hq52)
      have h_31 : f_27 (ad 24 0 0) = some (.inl (G.2 8, (yL Y).2, .inr (.inr (.inr (.inr (rf_of (aL S2) (fun i => ad 27 i 0))))))) := mq_n e_28 h_23 (mq_neN h_8 hq52)
      have h_32 : f_27 (ad 35 j 0) = some (.inl (G.2 0, 4, .inl (eqF e9.2.2.1))) := mq_n e_28 h_24 (mq_neN h_9 hq52)
      have h_33 : f_27 (ad 27 j 0) = some (.inr (14, [.ref (ad 28 j 0), .ref (ad 32 j 0), .ref (ad 35 j 0), .int (nI (e9.1)), .int (nI (e9.2.2.2.1)), .int (nI (e9.2.2.2.2 + 1)), va_rf (oMap (lWs (aE S2 j)) (ad 36 j 0)), va_rf (oMap (lWs (aE S2 j)) (ad 37 j 0))])) := mq_n e_28 h_25 (mq_neN h_10 hq52)
      have h_34 : f_27 q52 = some (.inl (G.2 0, 3, .inl (upd (upd (fun _ => 0) 0 1) 1 0))) := mq_s e_28
      refine lv_dup hx hb dX11_hint_62 rfl ?_
      refine lv_iconst (v := 2) hx hb dX11_hint_63 (by decide) ?_
      refine lv_iconst (v := 4) hx hb dX11_hint_64 (by decide) ?_
      refine mq_iast hx hb hK hM hS h_34 (vp_in_nI (n := 2) (by decide) (by decide)) dX11_hint_65 (fun f_35 H locs e_36 hM hS => ?_)
      rw [show (2 : Int32).toNatClampNeg = 2 from rfl] at e_36
      have h_37 : f_35 (ad 20 0 0) = some (.inr (16, [.int 0, .int (nI (aD S2)), .ref (ad 21 0 0), .ref (ad 23 0 0)])) := mq_n e_36 h_29 (mq_neN h_6 hq52)
      have h_38 : f_35 (ad 23 0 0) = some (.inr (4, [.int ((yL Y).1), .ref (ad 24 0 0), .int (nI (aL S2))])) := mq_n e_36 h_30 (mq_neN h_7 hq52)
      have h_39 : f_35 (ad 24 0 0) = some (.inl (G.2 8, (yL Y).2, .inr (.inr (.inr (.inr (rf_of (aL S2) (fun i => ad 27 i 0))))))) := mq_n e_36 h_31 (mq_neN h_8 hq52)
      have h_40 : f_35 (ad 35 j 0) = some (.inl (G.2 0, 4, .inl (eqF e9.2.2.1))) := mq_n e_36 h_32 (mq_neN h_9 hq52)
      have h_41 : f_35 (ad 27 j 0) = some (.inr (14, [.ref (ad 28 j 0), .ref (ad 32 j 0), .ref (ad 35 j 0), .int (nI (e9.1)), .int (nI (e9.2.2.2.1)), .int (nI (e9.2.2.2.2 + 1)), va_rf (oMap (lWs (aE S2 j)) (ad 36 j 0)), va_rf (oMap (lWs (aE S2 j)) (ad 37 j 0))])) := mq_n e_36 h_33 (mq_neN h_10 hq52)
      have h_42 : f_35 q52 = some (.inl (G.2 0, 3, .inl (upd (upd (upd (fun _ => 0) 0 1) 1 0) 2 4))) := mq_s e_36
      have hkk : ∀ y e, f_4 y = some e → f_35 y = some e := fun y e he => (mq_n e_36 (mq_n e_28 (mq_n e_20 (mq_n e_12 he (mq_neN he hq52)) (mq_neN he hq52)) (mq_neN he hq52)) (mq_neN he hq52))
      refine lv_astore_n (lv' := [(3, .ref q52), (2, .ref (ad 27 j 0)), (0, .ref (ad 20 0 0)), (1, .int (nI j))]) hx hb dX11_hint_66 rfl hl (by decide) rfl (fun ls hl => ?_)
      refine lv_aload_n hx hb dX11_hint_67 rfl (lv_at hl 0 rfl) ?_
      refine lv_astore (lv' := [(4, .ref q52), (3, .ref q52), (2, .ref (ad 27 j 0)), (0, .ref (ad 20 0 0)), (1, .int (nI j))]) hx hb dX11_hint_68 hl (by decide) rfl (fun ls hl => ?_)
      refine lv_aload hx hb dX11_hint_70 (lv_at hl 0 rfl) ?_
      refine mq_alen (t0 := 0) (v := 3) hx hb hK hM rfl h_42 rfl dX11_hint_72 ?_
      refine lv_istore (lv' := [(5, .int 3), (4, .ref q52), (3, .ref q52), (2, .ref (ad 27 j 0)), (0, .ref (ad 20 0 0)), (1, .int (nI j))]) hx hb dX11_hint_73 hl (by decide) rfl (fun ls hl => ?_)
      refine lv_iconst (v := 0) hx hb dX11_hint_75 (by decide) ?_
      refine lv_istore (lv' := [(6, .int 0), (5, .int 3), (4, .ref q52), (3, .ref q52), (2, .ref (ad 27 j 0)), (0, .ref (ad 20 0 0)), (1, .int (nI j))]) hx hb dX11_hint_76 hl (by decide) rfl (fun ls hl => ?_)
      refine lv_iload hx hb dX11_hint_78 (lv_at hl 0 rfl) ?_
      refine lv_iload hx hb dX11_hint_80 (lv_at hl 1 rfl) ?_
      refine lv_icmp_ge (tgt := 129) hx hb dX11_hint_82 (by decide) (fun c_82 => absurd c_82 (by decide)) (fun c_82 => ?_)
      refine lv_aload hx hb dX11_hint_85 (lv_at hl 2 rfl) ?_
      refine lv_iload hx hb dX11_hint_87 (lv_at hl 0 rfl) ?_
      refine mq_iald hx hb hK hM h_42 (vp_in_nI (n := 0) (by decide) (by decide)) dX11_hint_89 ?_
      rw [show (0 : Int32).toNatClampNeg = 0 from rfl]
      rw [show (upd (upd (upd (fun _ => 0) 0 1) 1 0) 2 4) 0 = 1 from rfl]
      refine lv_istore (lv' := [(7, .int 1), (6, .int 0), (5, .int 3), (4, .ref q52), (3, .ref q52), (2, .ref (ad 27 j 0)), (0, .ref (ad 20 0 0)), (1, .int (nI j))]) hx hb dX11_hint_90 hl (by decide) rfl (fun ls hl => ?_)
      refine lv_iload hx hb dX11_hint_92 (lv_at hl 0 rfl) ?_
      refine lv_aload_n hx hb dX11_hint_94 rfl (lv_at hl 5 rfl) ?_
      refine mq_get (ci := 14) (v := .ref (ad 35 j 0)) (C := RX9) (T := TX9) (N := 8) hx hb hts nX9 hown hK hM h_41 rfl 2 (by decide) w5 (fun _ h9 => h9) rfl dX11_hint_95 ?_
      refine mq_callq (va_runS (As := [.int 1, .ref (ad 35 j 0)]) (rest := []) ⟨hx, hb, hml, hown, hts⟩ (c_X11_done l G A f_35 1 (ad 35 j 0) e9.2.2.1) (va_cwS 2 hts gX11_hint_X11_done rfl rfl rfl (by decide +kernel) ⟨Nat.le_of_ble_eq_true rfl, Nat.le_of_ble_eq_true rfl⟩) (mq_preS hK hZ hS hA hM (⟨h_40, by decide⟩) _) rfl rfl hl.1 rfl (lv_room (Nat.le_of_ble_eq_true rfl)) dX11_hint_98 ⟨Nat.le_of_ble_eq_true rfl, Nat.le_of_ble_eq_true rfl⟩) hS (fun r98 g98 H locs p98 hM hS => ?_)
      refine W.widen (k := 2) (n := 7) (Nat.le_of_ble_eq_true rfl) (Nat.le_of_ble_eq_true rfl) ?_
      obtain ⟨q98, er, hk98, hv98⟩ := p98
      subst er
      have y27b := hk98 _ _ h_41
      have y35b := hk98 _ _ h_40
      have y52b := hk98 _ _ h_42
      have hkk : ∀ y e, f_4 y = some e → g98 y = some e := fun y e he => hk98 _ _ (hkk y e he)
      refine mq_astoreq (lv' := [(8, va_rf (oMap (dnV 1 e9.2.2.1) q98)), (7, .int 1), (6, .int 0), (5, .int 3), (4, .ref q52), (3, .ref q52), (2, .ref (ad 27 j 0)), (0, .ref (ad 20 0 0)), (1, .int (nI j))]) hx hb dX11_hint_101 hl (by decide) rfl (fun ls hl => ?_)
      refine mq_aloadq hx hb dX11_hint_103 (lv_at hl 0 rfl) ?_
      refine mq_ifnullq (tgt := 123) hx hb dX11_hint_105 (by decide) (fun c_105 => ?_) (fun a9 c_105 => ?_)
      · replace c_105 := oMap_none c_105
        rw [c_105] at hl
        exact absurd c_105 (by simp [dnV])
      · obtain ⟨d9, c_105⟩ := oMap_some c_105
        rw [c_105] at hl
        have yqb := hv98 _ c_105
        refine lv_aload hx hb dX11_hint_108 (lv_at hl 0 rfl) ?_
        refine lv_aload_n hx hb dX11_hint_110 rfl (lv_at hl 6 rfl) ?_
        refine mq_get (ci := 14) (v := .ref (ad 35 j 0)) (C := RX9) (T := TX9) (N := 8) hx hb hts nX9 hown hK hM y27b rfl 2 (by decide) w5 (fun _ h9 => h9) rfl dX11_hint_111 ?_
        refine mq_calli (va_runS (As := [.ref q98, .ref (ad 35 j 0)]) (rest := []) ⟨hx, hb, hml, hown, hts⟩ (c_X11_areSame l G A g98 q98 (ad 35 j 0) d9 e9.2.2.1) (va_cwS 2 hts gX11_hint_X11_areSame rfl rfl rfl (by decide +kernel) ⟨Nat.le_of_ble_eq_true rfl, Nat.le_of_ble_eq_true rfl⟩) (mq_preS hK hZ hS hA hM (⟨yqb, y35b⟩) _) rfl rfl hl.1 rfl (lv_room (Nat.le_of_ble_eq_true rfl)) dX11_hint_114 ⟨Nat.le_of_ble_eq_true rfl, Nat.le_of_ble_eq_true rfl⟩) hS (fun r114 g114 H locs p114 hM hS => ?_)
        refine W.widen (k := 2) (n := 7) (Nat.le_of_ble_eq_true rfl) (Nat.le_of_ble_eq_true rfl) ?_
        obtain ⟨rfl, rfl⟩ := p114
        refine lv_if_ne (tgt := 123) hx hb dX11_hint_117 (by decide) (fun c_117 => ?_) (fun c_117 => ?_)
        · replace c_117 : ¬ zb (decide (d9 = e9.2.2.1)) = 0 := c_117
          rw [zb_n0] at c_117
          have s1 : eq_rule 1 false e9.2.2.1 = e9.2.2.1 := (dn_s (by decide) c_105).symm.trans (of_decide_eq_true c_117)
          refine lv_iinc (v := 1) (lv' := [(6, .int 1), (8, .ref q98), (7, .int 1), (5, .int 3), (4, .ref q52), (3, .ref q52), (2, .ref (ad 27 j 0)), (0, .ref (ad 20 0 0)), (1, .int (nI j))]) hx hb dX11_hint_123 hl (k := 2) rfl (by decide) (by decide) rfl (fun ls hl => ?_)
          refine lv_goto (tgt := 78) hx hb dX11_hint_126 (by decide) ?_
          refine lv_iload hx hb dX11_hint_78 (lv_at hl 0 rfl) ?_
          refine lv_iload hx hb dX11_hint_80 (lv_at hl 3 rfl) ?_
          refine lv_icmp_ge (tgt := 129) hx hb dX11_hint_82 (by decide) (fun c_82 => absurd c_82 (by decide)) (fun c_82 => ?_)
          refine lv_aload hx hb dX11_hint_85 (lv_at hl 4 rfl) ?_
          refine lv_iload hx hb dX11_hint_87 (lv_at hl 0 rfl) ?_
          refine mq_iald hx hb hK hM y52b (vp_in_nI (n := 1) (by decide) (by decide)) dX11_hint_89 ?_
          rw [show (1 : Int32).toNatClampNeg = 1 from rfl]
          rw [show (upd (upd (upd (fun _ => 0) 0 1) 1 0) 2 4) 1 = 0 from rfl]
          refine lv_istore (lv' := [(7, .int 0), (6, .int 1), (8, .ref q98), (5, .int 3), (4, .ref q52), (3, .ref q52), (2, .ref (ad 27 j 0)), (0, .ref (ad 20 0 0)), (1, .int (nI j))]) hx hb dX11_hint_90 hl (by decide) rfl (fun ls hl => ?_)
          refine lv_iload hx hb dX11_hint_92 (lv_at hl 0 rfl) ?_
          refine lv_aload_n hx hb dX11_hint_94 rfl (lv_at hl 6 rfl) ?_
          refine mq_get (ci := 14) (v := .ref (ad 35 j 0)) (C := RX9) (T := TX9) (N := 8) hx hb hts nX9 hown hK hM y27b rfl 2 (by decide) w5 (fun _ h9 => h9) rfl dX11_hint_95 ?_
          refine mq_callq (va_runS (As := [.int 0, .ref (ad 35 j 0)]) (rest := []) ⟨hx, hb, hml, hown, hts⟩ (c_X11_done l G A g98 0 (ad 35 j 0) e9.2.2.1) (va_cwS 2 hts gX11_hint_X11_done rfl rfl rfl (by decide +kernel) ⟨Nat.le_of_ble_eq_true rfl, Nat.le_of_ble_eq_true rfl⟩) (mq_preS hK hZ hS hA hM (⟨y35b, by decide⟩) _) rfl rfl hl.1 rfl (lv_room (Nat.le_of_ble_eq_true rfl)) dX11_hint_98 ⟨Nat.le_of_ble_eq_true rfl, Nat.le_of_ble_eq_true rfl⟩) hS (fun r98 g98 H locs p98 hM hS => ?_)
          refine W.widen (k := 3) (n := 11) (Nat.le_of_ble_eq_true rfl) (Nat.le_of_ble_eq_true rfl) ?_
          obtain ⟨q98, er, hk98, hv98⟩ := p98
          subst er
          have y27b := hk98 _ _ y27b
          have y35b := hk98 _ _ y35b
          have y52b := hk98 _ _ y52b
          have hkk : ∀ y e, f_4 y = some e → g98 y = some e := fun y e he => hk98 _ _ (hkk y e he)
          refine mq_astoreq (lv' := [(8, va_rf (oMap (dnV 0 e9.2.2.1) q98)), (7, .int 0), (6, .int 1), (5, .int 3), (4, .ref q52), (3, .ref q52), (2, .ref (ad 27 j 0)), (0, .ref (ad 20 0 0)), (1, .int (nI j))]) hx hb dX11_hint_101 hl (by decide) rfl (fun ls hl => ?_)
          refine mq_aloadq hx hb dX11_hint_103 (lv_at hl 0 rfl) ?_
          refine mq_ifnullq (tgt := 123) hx hb dX11_hint_105 (by decide) (fun c_105 => ?_) (fun a9 c_105 => ?_)
          · replace c_105 := oMap_none c_105
            rw [c_105] at hl
            exact absurd c_105 (by simp [dnV])
          · obtain ⟨d9, c_105⟩ := oMap_some c_105
            rw [c_105] at hl
            have yqb := hv98 _ c_105
            refine lv_aload hx hb dX11_hint_108 (lv_at hl 0 rfl) ?_
            refine lv_aload_n hx hb dX11_hint_110 rfl (lv_at hl 6 rfl) ?_
            refine mq_get (ci := 14) (v := .ref (ad 35 j 0)) (C := RX9) (T := TX9) (N := 8) hx hb hts nX9 hown hK hM y27b rfl 2 (by decide) w5 (fun _ h9 => h9) rfl dX11_hint_111 ?_
            refine mq_calli (va_runS (As := [.ref q98, .ref (ad 35 j 0)]) (rest := []) ⟨hx, hb, hml, hown, hts⟩ (c_X11_areSame l G A g98 q98 (ad 35 j 0) d9 e9.2.2.1) (va_cwS 2 hts gX11_hint_X11_areSame rfl rfl rfl (by decide +kernel) ⟨Nat.le_of_ble_eq_true rfl, Nat.le_of_ble_eq_true rfl⟩) (mq_preS hK hZ hS hA hM (⟨yqb, y35b⟩) _) rfl rfl hl.1 rfl (lv_room (Nat.le_of_ble_eq_true rfl)) dX11_hint_114 ⟨Nat.le_of_ble_eq_true rfl, Nat.le_of_ble_eq_true rfl⟩) hS (fun r114 g114 H locs p114 hM hS => ?_)
            refine W.widen (k := 3) (n := 11) (Nat.le_of_ble_eq_true rfl) (Nat.le_of_ble_eq_true rfl) ?_
            obtain ⟨rfl, rfl⟩ := p114
            refine lv_if_ne (tgt := 123) hx hb dX11_hint_117 (by decide) (fun c_117 => ?_) (fun c_117 => ?_)
            · replace c_117 : ¬ zb (decide (d9 = e9.2.2.1)) = 0 := c_117
              rw [zb_n0] at c_117
              have s0 : eq_rule 0 false e9.2.2.1 = e9.2.2.1 := (dn_s (by decide) c_105).symm.trans (of_decide_eq_true c_117)
              refine lv_iinc (v := 2) (lv' := [(6, .int 2), (8, .ref q98), (7, .int 0), (5, .int 3), (4, .ref q52), (3, .ref q52), (2, .ref (ad 27 j 0)), (0, .ref (ad 20 0 0)), (1, .int (nI j))]) hx hb dX11_hint_123 hl (k := 2) rfl (by decide) (by decide) rfl (fun ls hl => ?_)
              refine lv_goto (tgt := 78) hx hb dX11_hint_126 (by decide) ?_
              refine lv_iload hx hb dX11_hint_78 (lv_at hl 0 rfl) ?_
              refine lv_iload hx hb dX11_hint_80 (lv_at hl 3 rfl) ?_
              refine lv_icmp_ge (tgt := 129) hx hb dX11_hint_82 (by decide) (fun c_82 => absurd c_82 (by decide)) (fun c_82 => ?_)
              refine lv_aload hx hb dX11_hint_85 (lv_at hl 4 rfl) ?_
              refine lv_iload hx hb dX11_hint_87 (lv_at hl 0 rfl) ?_
              refine mq_iald hx hb hK hM y52b (vp_in_nI (n := 2) (by decide) (by decide)) dX11_hint_89 ?_
              rw [show (2 : Int32).toNatClampNeg = 2 from rfl]
              rw [show (upd (upd (upd (fun _ => 0) 0 1) 1 0) 2 4) 2 = 4 from rfl]
              refine lv_istore (lv' := [(7, .int 4), (6, .int 2), (8, .ref q98), (5, .int 3), (4, .ref q52), (3, .ref q52), (2, .ref (ad 27 j 0)), (0, .ref (ad 20 0 0)), (1, .int (nI j))]) hx hb dX11_hint_90 hl (by decide) rfl (fun ls hl => ?_)
              refine lv_iload hx hb dX11_hint_92 (lv_at hl 0 rfl) ?_
              refine lv_aload_n hx hb dX11_hint_94 rfl (lv_at hl 6 rfl) ?_
              refine mq_get (ci := 14) (v := .ref (ad 35 j 0)) (C := RX9) (T := TX9) (N := 8) hx hb hts nX9 hown hK hM y27b rfl 2 (by decide) w5 (fun _ h9 => h9) rfl dX11_hint_95 ?_
              refine mq_callq (va_runS (As := [.int 4, .ref (ad 35 j 0)]) (rest := []) ⟨hx, hb, hml, hown, hts⟩ (c_X11_done l G A g98 4 (ad 35 j 0) e9.2.2.1) (va_cwS 2 hts gX11_hint_X11_done rfl rfl rfl (by decide +kernel) ⟨Nat.le_of_ble_eq_true rfl, Nat.le_of_ble_eq_true rfl⟩) (mq_preS hK hZ hS hA hM (⟨y35b, by decide⟩) _) rfl rfl hl.1 rfl (lv_room (Nat.le_of_ble_eq_true rfl)) dX11_hint_98 ⟨Nat.le_of_ble_eq_true rfl, Nat.le_of_ble_eq_true rfl⟩) hS (fun r98 g98 H locs p98 hM hS => ?_)
              refine W.widen (k := 4) (n := 15) (Nat.le_of_ble_eq_true rfl) (Nat.le_of_ble_eq_true rfl) ?_
              obtain ⟨q98, er, hk98, hv98⟩ := p98
              subst er
              have y27b := hk98 _ _ y27b
              have y35b := hk98 _ _ y35b
              have y52b := hk98 _ _ y52b
              have hkk : ∀ y e, f_4 y = some e → g98 y = some e := fun y e he => hk98 _ _ (hkk y e he)
              refine mq_astoreq (lv' := [(8, va_rf (oMap (dnV 4 e9.2.2.1) q98)), (7, .int 4), (6, .int 2), (5, .int 3), (4, .ref q52), (3, .ref q52), (2, .ref (ad 27 j 0)), (0, .ref (ad 20 0 0)), (1, .int (nI j))]) hx hb dX11_hint_101 hl (by decide) rfl (fun ls hl => ?_)
              refine mq_aloadq hx hb dX11_hint_103 (lv_at hl 0 rfl) ?_
              refine mq_ifnullq (tgt := 123) hx hb dX11_hint_105 (by decide) (fun c_105 => ?_) (fun a9 c_105 => ?_)
              · replace c_105 := oMap_none c_105
                rw [c_105] at hl
                have s4 : eq_rule 4 false e9.2.2.1 = e9.2.2.1 := dn_n4 c_105
                refine lv_iinc (v := 3) (lv' := [(6, .int 3), (8, .null), (7, .int 4), (5, .int 3), (4, .ref q52), (3, .ref q52), (2, .ref (ad 27 j 0)), (0, .ref (ad 20 0 0)), (1, .int (nI j))]) hx hb dX11_hint_123 hl (k := 2) rfl (by decide) (by decide) rfl (fun ls hl => ?_)
                refine lv_goto (tgt := 78) hx hb dX11_hint_126 (by decide) ?_
                refine lv_iload hx hb dX11_hint_78 (lv_at hl 0 rfl) ?_
                refine lv_iload hx hb dX11_hint_80 (lv_at hl 3 rfl) ?_
                refine lv_icmp_ge (tgt := 129) hx hb dX11_hint_82 (by decide) (fun c_82 => ?_) (fun c_82 => absurd c_82 (by decide))
                refine lv_iconst (v := 3) hx hb dX11_hint_129 (by decide) ?_
                exact mq_iret (v := 3) hx hb hr hlocks hM hS (⟨0, sLe S2 j (some (e9.1, e9.2.1, e9.2.2.1, e9.2.2.2.1, e9.2.2.2.2 + 1), lWs (aE S2 j), lMd (aE S2 j)), Y, ad, (spL_y hj hl4).trans (by rw [he9]; show (0, hintV e9.2.2.1, _) = _; rw [show hintV e9.2.2.1 = 3 from (if_neg (fun q => q s1)).trans ((if_neg (fun q => q s0)).trans (if_neg (fun q => q s4)))]), RR.mono hR5 hkk, mCp_le hO.2 rfl, adK_id⟩) dX11_hint_130
              · obtain ⟨d9, c_105⟩ := oMap_some c_105
                rw [c_105] at hl
                have yqb := hv98 _ c_105
                refine lv_aload hx hb dX11_hint_108 (lv_at hl 0 rfl) ?_
                refine lv_aload_n hx hb dX11_hint_110 rfl (lv_at hl 6 rfl) ?_
                refine mq_get (ci := 14) (v := .ref (ad 35 j 0)) (C := RX9) (T := TX9) (N := 8) hx hb hts nX9 hown hK hM y27b rfl 2 (by decide) w5 (fun _ h9 => h9) rfl dX11_hint_111 ?_
                refine mq_calli (va_runS (As := [.ref q98, .ref (ad 35 j 0)]) (rest := []) ⟨hx, hb, hml, hown, hts⟩ (c_X11_areSame l G A g98 q98 (ad 35 j 0) d9 e9.2.2.1) (va_cwS 2 hts gX11_hint_X11_areSame rfl rfl rfl (by decide +kernel) ⟨Nat.le_of_ble_eq_true rfl, Nat.le_of_ble_eq_true rfl⟩) (mq_preS hK hZ hS hA hM (⟨yqb, y35b⟩) _) rfl rfl hl.1 rfl (lv_room (Nat.le_of_ble_eq_true rfl)) dX11_hint_114 ⟨Nat.le_of_ble_eq_true rfl, Nat.le_of_ble_eq_true rfl⟩) hS (fun r114 g114 H locs p114 hM hS => ?_)
                refine W.widen (k := 4) (n := 15) (Nat.le_of_ble_eq_true rfl) (Nat.le_of_ble_eq_true rfl) ?_
                obtain ⟨rfl, rfl⟩ := p114
                refine lv_if_ne (tgt := 123) hx hb dX11_hint_117 (by decide) (fun c_117 => ?_) (fun c_117 => ?_)
                · replace c_117 : ¬ zb (decide (d9 = e9.2.2.1)) = 0 := c_117
                  rw [zb_n0] at c_117
                  have s4 : eq_rule 4 false e9.2.2.1 = e9.2.2.1 := (dn_s (by decide) c_105).symm.trans (of_decide_eq_true c_117)
                  refine lv_iinc (v := 3) (lv' := [(6, .int 3), (8, .ref q98), (7, .int 4), (5, .int 3), (4, .ref q52), (3, .ref q52), (2, .ref (ad 27 j 0)), (0, .ref (ad 20 0 0)), (1, .int (nI j))]) hx hb dX11_hint_123 hl (k := 2) rfl (by decide) (by decide) rfl (fun ls hl => ?_)
                  refine lv_goto (tgt := 78) hx hb dX11_hint_126 (by decide) ?_
                  refine lv_iload hx hb dX11_hint_78 (lv_at hl 0 rfl) ?_
                  refine lv_iload hx hb dX11_hint_80 (lv_at hl 3 rfl) ?_
                  refine lv_icmp_ge (tgt := 129) hx hb dX11_hint_82 (by decide) (fun c_82 => ?_) (fun c_82 => absurd c_82 (by decide))
                  refine lv_iconst (v := 3) hx hb dX11_hint_129 (by decide) ?_
                  exact mq_iret (v := 3) hx hb hr hlocks hM hS (⟨0, sLe S2 j (some (e9.1, e9.2.1, e9.2.2.1, e9.2.2.2.1, e9.2.2.2.2 + 1), lWs (aE S2 j), lMd (aE S2 j)), Y, ad, (spL_y hj hl4).trans (by rw [he9]; show (0, hintV e9.2.2.1, _) = _; rw [show hintV e9.2.2.1 = 3 from (if_neg (fun q => q s1)).trans ((if_neg (fun q => q s0)).trans (if_neg (fun q => q s4)))]), RR.mono hR5 hkk, mCp_le hO.2 rfl, adK_id⟩) dX11_hint_130
                · replace c_117 : zb (decide (d9 = e9.2.2.1)) = 0 := c_117
                  rw [zb_0] at c_117
                  refine lv_iload hx hb dX11_hint_120 (lv_at hl 1 rfl) ?_
                  exact mq_iret (v := 4) hx hb hr hlocks hM hS (⟨0, sLe S2 j (some (e9.1, e9.2.1, e9.2.2.1, e9.2.2.2.1, e9.2.2.2.2 + 1), lWs (aE S2 j), lMd (aE S2 j)), Y, ad, (spL_y hj hl4).trans (by rw [he9]; show (0, hintV e9.2.2.1, _) = _; rw [show hintV e9.2.2.1 = 4 from (if_neg (fun q => q s1)).trans ((if_neg (fun q => q s0)).trans (if_pos (fun q => of_decide_eq_false c_117 ((dn_s (by decide) c_105).trans q))))]), RR.mono hR5 hkk, mCp_le hO.2 rfl, adK_id⟩) dX11_hint_122
            · replace c_117 : zb (decide (d9 = e9.2.2.1)) = 0 := c_117
              rw [zb_0] at c_117
              refine lv_iload hx hb dX11_hint_120 (lv_at hl 1 rfl) ?_
              refine W.widen (k := 4) (n := 15) (Nat.le_of_ble_eq_true rfl) (Nat.le_of_ble_eq_true rfl) ?_
              exact mq_iret (v := 0) hx hb hr hlocks hM hS (⟨0, sLe S2 j (some (e9.1, e9.2.1, e9.2.2.1, e9.2.2.2.1, e9.2.2.2.2 + 1), lWs (aE S2 j), lMd (aE S2 j)), Y, ad, (spL_y hj hl4).trans (by rw [he9]; show (0, hintV e9.2.2.1, _) = _; rw [show hintV e9.2.2.1 = 0 from (if_neg (fun q => q s1)).trans (if_pos (fun q => of_decide_eq_false c_117 ((dn_s (by decide) c_105).trans q)))]), RR.mono hR5 hkk, mCp_le hO.2 rfl, adK_id⟩) dX11_hint_122
        · replace c_117 : zb (decide (d9 = e9.2.2.1)) = 0 := c_117
          rw [zb_0] at c_117
          refine lv_iload hx hb dX11_hint_120 (lv_at hl 1 rfl) ?_
          refine W.widen (k := 4) (n := 15) (Nat.le_of_ble_eq_true rfl) (Nat.le_of_ble_eq_true rfl) ?_
          exact mq_iret (v := 1) hx hb hr hlocks hM hS (⟨0, sLe S2 j (some (e9.1, e9.2.1, e9.2.2.1, e9.2.2.2.1, e9.2.2.2.2 + 1), lWs (aE S2 j), lMd (aE S2 j)), Y, ad, (spL_y hj hl4).trans (by rw [he9]; show (0, hintV e9.2.2.1, _) = _; rw [show hintV e9.2.2.1 = 1 from if_pos (fun q => of_decide_eq_false c_117 ((dn_s (by decide) c_105).trans q))]), RR.mono hR5 hkk, mCp_le hO.2 rfl, adK_id⟩) dX11_hint_122
    · obtain ⟨he9, hR9⟩ := nx_1 p21 c_24
      refine lv_iconst (v := 0) hx hb dX11_hint_27 (by decide) ?_
      refine W.widen (k := 4) (n := 15) (Nat.le_of_ble_eq_true rfl) (Nat.le_of_ble_eq_true rfl) ?_
      exact mq_iret (v := 0) hx hb hr hlocks hM hS (⟨2, S2, Y, ad, (spL_y hj hl4).trans (by rw [he9]; rfl), hR9, hO.2, adK_id⟩) dX11_hint_28
