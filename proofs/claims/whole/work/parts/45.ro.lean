/-! THE REFERENCE: follows, step -/
theorem eq_same_sym {x y : eqT} : eq_same x y = eq_same y x := by
  unfold eq_same eq_fol
  by_cases h : (x.1 - x.2.2.1).toInt64 = 0 ∨ (y.1 - y.2.2.1).toInt64 = 0
  · rw [if_pos h, if_pos h.symm]
    congr 1
    · exact decide_eq_decide.mpr ⟨Eq.symm, Eq.symm⟩
    · exact Bool.beq_comm
  · rw [if_neg h, if_neg (fun q => h q.symm)]
    exact decide_eq_decide.mpr ⟨Eq.symm, Eq.symm⟩
theorem inB_tld {v : Int32} : inB v (-9999) 9999 = tld v := by
  unfold inB tld
  refine decide_eq_decide.mpr ?_
  rw [Int32.le_iff_toInt_le, Int32.le_iff_toInt_le]
  exact Iff.rfl
abbrev yOn (Y : MX) (j : Nat) (o : Nat × Nat × Nat) : MX := (yT Y, yS Y, yL Y, yA Y, yM Y, fU (yO Y) j o)
theorem mCp_le {S2 : AT} {Y : MX} {j : Nat} {v : leT} (h : mCp S2 Y) (hv : lMd v = lMd (aE S2 j)) : mCp (sLe S2 j v) Y := by
  refine ⟨h.1, h.2.1, h.2.2.1, fun j' hj => ?_⟩
  show lcO (lMd (fU (aE S2) j v j')).length (yM Y j').2
  unfold fU
  split
  · rename_i e
    subst e
    rw [hv]; exact h.2.2.2 j' hj
  · exact h.2.2.2 j' hj

set_option maxHeartbeats 2000000 in
theorem cT_wr {G : mq_G} {ad : AD} {S : AT} {X : CX} {S2 : AT} {Y : MX} {O : OX} {j0 : Nat} {e : exT} (t9 : eqT) (q : Nat) (hj : j0 < aL S2) (he : lEx (aE S2 j0) = some e) : cU (cU (cU (cT G ad S X S2 Y O) 37 j0 0 (cIn G 4 (eqF t9))) 36 j0 0 (cIn G 4 (eqF e.2.2.1))) 27 j0 0 (.inr (14, [.ref (ad 28 j0 0), .ref (ad 32 j0 0), .ref (ad 35 j0 0), .int (nI e.1), .int (nI (e.2.2.2.1 + 1)), .int (nI e.2.2.2.2), .ref (ad 35 j0 0), .ref q])) = cT G (adU (adU ad 37 j0 0 q) 36 j0 0 (ad 35 j0 0)) S X (sLe S2 j0 (some (e.1, e.2.1, e.2.2.1, e.2.2.2.1 + 1, e.2.2.2.2), some (e.2.2.1, t9), lMd (aE S2 j0))) Y O := by
  funext a j k
  exact (match a with
    | 0 => by first | rfl | (simp [aN, aL, aD, aS, aM, aE, sTop, sSk, sMa, sLe, xW, xLn, xOl, xB, xSo, xR, xK, sW, sRi, sXp, lEx, lWs, lMd, cU, cT, adU, fU, fU2]; done)
    | 1 => by first | rfl | (simp [aN, aL, aD, aS, aM, aE, sTop, sSk, sMa, sLe, xW, xLn, xOl, xB, xSo, xR, xK, sW, sRi, sXp, lEx, lWs, lMd, cU, cT, adU, fU, fU2]; done)
    | 2 => by first | rfl | (simp [aN, aL, aD, aS, aM, aE, sTop, sSk, sMa, sLe, xW, xLn, xOl, xB, xSo, xR, xK, sW, sRi, sXp, lEx, lWs, lMd, cU, cT, adU, fU, fU2]; done)
    | 3 => by first | rfl | (simp [aN, aL, aD, aS, aM, aE, sTop, sSk, sMa, sLe, xW, xLn, xOl, xB, xSo, xR, xK, sW, sRi, sXp, lEx, lWs, lMd, cU, cT, adU, fU, fU2]; done)
    | 4 => by first | rfl | (simp [aN, aL, aD, aS, aM, aE, sTop, sSk, sMa, sLe, xW, xLn, xOl, xB, xSo, xR, xK, sW, sRi, sXp, lEx, lWs, lMd, cU, cT, adU, fU, fU2]; done)
    | 5 => by first | rfl | (simp [aN, aL, aD, aS, aM, aE, sTop, sSk, sMa, sLe, xW, xLn, xOl, xB, xSo, xR, xK, sW, sRi, sXp, lEx, lWs, lMd, cU, cT, adU, fU, fU2]; done)
    | 6 => by first | rfl | (simp [aN, aL, aD, aS, aM, aE, sTop, sSk, sMa, sLe, xW, xLn, xOl, xB, xSo, xR, xK, sW, sRi, sXp, lEx, lWs, lMd, cU, cT, adU, fU, fU2]; done)
    | 7 => by first | rfl | (simp [aN, aL, aD, aS, aM, aE, sTop, sSk, sMa, sLe, xW, xLn, xOl, xB, xSo, xR, xK, sW, sRi, sXp, lEx, lWs, lMd, cU, cT, adU, fU, fU2]; done)
    | 8 => by first | rfl | (simp [aN, aL, aD, aS, aM, aE, sTop, sSk, sMa, sLe, xW, xLn, xOl, xB, xSo, xR, xK, sW, sRi, sXp, lEx, lWs, lMd, cU, cT, adU, fU, fU2]; done)
    | 9 => by first | rfl | (simp [aN, aL, aD, aS, aM, aE, sTop, sSk, sMa, sLe, xW, xLn, xOl, xB, xSo, xR, xK, sW, sRi, sXp, lEx, lWs, lMd, cU, cT, adU, fU, fU2]; done)
    | 10 => by first | rfl | (simp [aN, aL, aD, aS, aM, aE, sTop, sSk, sMa, sLe, xW, xLn, xOl, xB, xSo, xR, xK, sW, sRi, sXp, lEx, lWs, lMd, cU, cT, adU, fU, fU2]; done)
    | 11 => by first | rfl | (simp [aN, aL, aD, aS, aM, aE, sTop, sSk, sMa, sLe, xW, xLn, xOl, xB, xSo, xR, xK, sW, sRi, sXp, lEx, lWs, lMd, cU, cT, adU, fU, fU2]; done)
    | 12 => by first | rfl | (simp [aN, aL, aD, aS, aM, aE, sTop, sSk, sMa, sLe, xW, xLn, xOl, xB, xSo, xR, xK, sW, sRi, sXp, lEx, lWs, lMd, cU, cT, adU, fU, fU2]; done)
    | 13 => by first | rfl | (simp [aN, aL, aD, aS, aM, aE, sTop, sSk, sMa, sLe, xW, xLn, xOl, xB, xSo, xR, xK, sW, sRi, sXp, lEx, lWs, lMd, cU, cT, adU, fU, fU2]; done)
    | 14 => by first | rfl | (simp [aN, aL, aD, aS, aM, aE, sTop, sSk, sMa, sLe, xW, xLn, xOl, xB, xSo, xR, xK, sW, sRi, sXp, lEx, lWs, lMd, cU, cT, adU, fU, fU2]; done)
    | 15 => by first | rfl | (simp [aN, aL, aD, aS, aM, aE, sTop, sSk, sMa, sLe, xW, xLn, xOl, xB, xSo, xR, xK, sW, sRi, sXp, lEx, lWs, lMd, cU, cT, adU, fU, fU2]; done)
    | 16 => by first | rfl | (simp [aN, aL, aD, aS, aM, aE, sTop, sSk, sMa, sLe, xW, xLn, xOl, xB, xSo, xR, xK, sW, sRi, sXp, lEx, lWs, lMd, cU, cT, adU, fU, fU2]; done)
    | 17 => by first | rfl | (simp [aN, aL, aD, aS, aM, aE, sTop, sSk, sMa, sLe, xW, xLn, xOl, xB, xSo, xR, xK, sW, sRi, sXp, lEx, lWs, lMd, cU, cT, adU, fU, fU2]; done)
    | 18 => by first | rfl | (simp [aN, aL, aD, aS, aM, aE, sTop, sSk, sMa, sLe, xW, xLn, xOl, xB, xSo, xR, xK, sW, sRi, sXp, lEx, lWs, lMd, cU, cT, adU, fU, fU2]; done)
    | 19 => by first | rfl | (simp [aN, aL, aD, aS, aM, aE, sTop, sSk, sMa, sLe, xW, xLn, xOl, xB, xSo, xR, xK, sW, sRi, sXp, lEx, lWs, lMd, cU, cT, adU, fU, fU2]; done)
    | 20 => by first | rfl | (simp [aN, aL, aD, aS, aM, aE, sTop, sSk, sMa, sLe, xW, xLn, xOl, xB, xSo, xR, xK, sW, sRi, sXp, lEx, lWs, lMd, cU, cT, adU, fU, fU2]; done)
    | 21 => by first | rfl | (simp [aN, aL, aD, aS, aM, aE, sTop, sSk, sMa, sLe, xW, xLn, xOl, xB, xSo, xR, xK, sW, sRi, sXp, lEx, lWs, lMd, cU, cT, adU, fU, fU2]; done)
    | 22 => by first | rfl | (simp [aN, aL, aD, aS, aM, aE, sTop, sSk, sMa, sLe, xW, xLn, xOl, xB, xSo, xR, xK, sW, sRi, sXp, lEx, lWs, lMd, cU, cT, adU, fU, fU2]; done)
    | 23 => by first | rfl | (simp [aN, aL, aD, aS, aM, aE, sTop, sSk, sMa, sLe, xW, xLn, xOl, xB, xSo, xR, xK, sW, sRi, sXp, lEx, lWs, lMd, cU, cT, adU, fU, fU2]; done)
    | 24 => by first | rfl | (simp [aN, aL, aD, aS, aM, aE, sTop, sSk, sMa, sLe, xW, xLn, xOl, xB, xSo, xR, xK, sW, sRi, sXp, lEx, lWs, lMd, cU, cT, adU, fU, fU2]; done)
    | 25 => by first | rfl | (simp [aN, aL, aD, aS, aM, aE, sTop, sSk, sMa, sLe, xW, xLn, xOl, xB, xSo, xR, xK, sW, sRi, sXp, lEx, lWs, lMd, cU, cT, adU, fU, fU2]; done)
    | 26 => by first | rfl | (simp [aN, aL, aD, aS, aM, aE, sTop, sSk, sMa, sLe, xW, xLn, xOl, xB, xSo, xR, xK, sW, sRi, sXp, lEx, lWs, lMd, cU, cT, adU, fU, fU2]; done)
    | 27 => by
        by_cases h : j = j0
        · subst h; by_cases h2 : k = 0 <;> simp [aN, aL, aD, aS, aM, aE, sTop, sSk, sMa, sLe, lEx, lWs, lMd, cU, cT, adU, fU, fU2, yT, yS, yL, yA, yM, yO, yAn, yMn, oMap, hj, h2, he, exN, va_rf]
        · simp [aN, aL, aD, aS, aM, aE, sTop, sSk, sMa, sLe, lEx, lWs, lMd, cU, cT, adU, fU, fU2, yT, yS, yL, yA, yM, yO, yAn, yMn, oMap, h]
    | 28 => by first | rfl | (simp [aN, aL, aD, aS, aM, aE, sTop, sSk, sMa, sLe, xW, xLn, xOl, xB, xSo, xR, xK, sW, sRi, sXp, lEx, lWs, lMd, cU, cT, adU, fU, fU2]; done)
    | 29 => by first | rfl | (simp [aN, aL, aD, aS, aM, aE, sTop, sSk, sMa, sLe, xW, xLn, xOl, xB, xSo, xR, xK, sW, sRi, sXp, lEx, lWs, lMd, cU, cT, adU, fU, fU2]; done)
    | 30 => by first | rfl | (simp [aN, aL, aD, aS, aM, aE, sTop, sSk, sMa, sLe, xW, xLn, xOl, xB, xSo, xR, xK, sW, sRi, sXp, lEx, lWs, lMd, cU, cT, adU, fU, fU2]; done)
    | 31 => by first | rfl | (simp [aN, aL, aD, aS, aM, aE, sTop, sSk, sMa, sLe, xW, xLn, xOl, xB, xSo, xR, xK, sW, sRi, sXp, lEx, lWs, lMd, cU, cT, adU, fU, fU2]; done)
    | 32 => by
        by_cases h : j = j0
        · subst h; by_cases h2 : k = 0 <;> simp [aN, aL, aD, aS, aM, aE, sTop, sSk, sMa, sLe, lEx, lWs, lMd, cU, cT, adU, fU, fU2, yT, yS, yL, yA, yM, yO, yAn, yMn, oMap, hj, h2, he, exN, va_rf]
        · simp [aN, aL, aD, aS, aM, aE, sTop, sSk, sMa, sLe, lEx, lWs, lMd, cU, cT, adU, fU, fU2, yT, yS, yL, yA, yM, yO, yAn, yMn, oMap, h]
    | 33 => by
        by_cases h : j = j0
        · subst h; by_cases h2 : k = 0 <;> simp [aN, aL, aD, aS, aM, aE, sTop, sSk, sMa, sLe, lEx, lWs, lMd, cU, cT, adU, fU, fU2, yT, yS, yL, yA, yM, yO, yAn, yMn, oMap, hj, h2, he, exN, va_rf]
        · simp [aN, aL, aD, aS, aM, aE, sTop, sSk, sMa, sLe, lEx, lWs, lMd, cU, cT, adU, fU, fU2, yT, yS, yL, yA, yM, yO, yAn, yMn, oMap, h]
    | 34 => by
        by_cases h : j = j0
        · subst h; by_cases h2 : k = 0 <;> simp [aN, aL, aD, aS, aM, aE, sTop, sSk, sMa, sLe, lEx, lWs, lMd, cU, cT, adU, fU, fU2, yT, yS, yL, yA, yM, yO, yAn, yMn, oMap, hj, h2, he, exN, va_rf]
        · simp [aN, aL, aD, aS, aM, aE, sTop, sSk, sMa, sLe, lEx, lWs, lMd, cU, cT, adU, fU, fU2, yT, yS, yL, yA, yM, yO, yAn, yMn, oMap, h]
    | 35 => by
        by_cases h : j = j0
        · subst h; by_cases h2 : k = 0 <;> simp [aN, aL, aD, aS, aM, aE, sTop, sSk, sMa, sLe, lEx, lWs, lMd, cU, cT, adU, fU, fU2, yT, yS, yL, yA, yM, yO, yAn, yMn, oMap, hj, h2, he, exN, va_rf]
        · simp [aN, aL, aD, aS, aM, aE, sTop, sSk, sMa, sLe, lEx, lWs, lMd, cU, cT, adU, fU, fU2, yT, yS, yL, yA, yM, yO, yAn, yMn, oMap, h]
    | 36 => by
        by_cases h : j = j0
        · subst h; by_cases h2 : k = 0 <;> simp [aN, aL, aD, aS, aM, aE, sTop, sSk, sMa, sLe, lEx, lWs, lMd, cU, cT, adU, fU, fU2, yT, yS, yL, yA, yM, yO, yAn, yMn, oMap, hj, h2, he, exN, va_rf]
        · simp [aN, aL, aD, aS, aM, aE, sTop, sSk, sMa, sLe, lEx, lWs, lMd, cU, cT, adU, fU, fU2, yT, yS, yL, yA, yM, yO, yAn, yMn, oMap, h]
    | 37 => by
        by_cases h : j = j0
        · subst h; by_cases h2 : k = 0 <;> simp [aN, aL, aD, aS, aM, aE, sTop, sSk, sMa, sLe, lEx, lWs, lMd, cU, cT, adU, fU, fU2, yT, yS, yL, yA, yM, yO, yAn, yMn, oMap, hj, h2, he, exN, va_rf]
        · simp [aN, aL, aD, aS, aM, aE, sTop, sSk, sMa, sLe, lEx, lWs, lMd, cU, cT, adU, fU, fU2, yT, yS, yL, yA, yM, yO, yAn, yMn, oMap, h]
    | 38 => by first | rfl | (simp [aN, aL, aD, aS, aM, aE, sTop, sSk, sMa, sLe, xW, xLn, xOl, xB, xSo, xR, xK, sW, sRi, sXp, lEx, lWs, lMd, cU, cT, adU, fU, fU2]; done)
    | 39 => by first | rfl | (simp [aN, aL, aD, aS, aM, aE, sTop, sSk, sMa, sLe, xW, xLn, xOl, xB, xSo, xR, xK, sW, sRi, sXp, lEx, lWs, lMd, cU, cT, adU, fU, fU2]; done)
    | n + 40 => by first | rfl | simp [cU, cT])

set_option maxHeartbeats 2000000 in
theorem cT_rR {G : mq_G} {ad : AD} {S : AT} {X : CX} {S2 : AT} {Y : MX} {O : OX} {j0 : Nat} {e : exT} (t9 : eqT) (q : Nat) (hj : j0 < aL S2) (he : lEx (aE S2 j0) = some e) : cU (cU (cT G ad S X S2 Y O) 35 j0 0 (cIn G 4 (eqF t9))) 27 j0 0 (.inr (14, [.ref (ad 28 j0 0), .ref (ad 32 j0 0), .ref q, .int (nI e.1), .int (nI e.2.2.2.1), .int (nI e.2.2.2.2), va_rf (oMap (lWs (aE S2 j0)) (ad 36 j0 0)), va_rf (oMap (lWs (aE S2 j0)) (ad 37 j0 0))])) = cT G (adU ad 35 j0 0 q) S X (sLe S2 j0 (some (e.1, e.2.1, t9, e.2.2.2.1, e.2.2.2.2), lWs (aE S2 j0), lMd (aE S2 j0))) Y O := by
  funext a j k
  exact (match a with
    | 0 => by first | rfl | (simp [aN, aL, aD, aS, aM, aE, sTop, sSk, sMa, sLe, xW, xLn, xOl, xB, xSo, xR, xK, sW, sRi, sXp, lEx, lWs, lMd, cU, cT, adU, fU, fU2]; done)
    | 1 => by first | rfl | (simp [aN, aL, aD, aS, aM, aE, sTop, sSk, sMa, sLe, xW, xLn, xOl, xB, xSo, xR, xK, sW, sRi, sXp, lEx, lWs, lMd, cU, cT, adU, fU, fU2]; done)
    | 2 => by first | rfl | (simp [aN, aL, aD, aS, aM, aE, sTop, sSk, sMa, sLe, xW, xLn, xOl, xB, xSo, xR, xK, sW, sRi, sXp, lEx, lWs, lMd, cU, cT, adU, fU, fU2]; done)
    | 3 => by first | rfl | (simp [aN, aL, aD, aS, aM, aE, sTop, sSk, sMa, sLe, xW, xLn, xOl, xB, xSo, xR, xK, sW, sRi, sXp, lEx, lWs, lMd, cU, cT, adU, fU, fU2]; done)
    | 4 => by first | rfl | (simp [aN, aL, aD, aS, aM, aE, sTop, sSk, sMa, sLe, xW, xLn, xOl, xB, xSo, xR, xK, sW, sRi, sXp, lEx, lWs, lMd, cU, cT, adU, fU, fU2]; done)
    | 5 => by first | rfl | (simp [aN, aL, aD, aS, aM, aE, sTop, sSk, sMa, sLe, xW, xLn, xOl, xB, xSo, xR, xK, sW, sRi, sXp, lEx, lWs, lMd, cU, cT, adU, fU, fU2]; done)
    | 6 => by first | rfl | (simp [aN, aL, aD, aS, aM, aE, sTop, sSk, sMa, sLe, xW, xLn, xOl, xB, xSo, xR, xK, sW, sRi, sXp, lEx, lWs, lMd, cU, cT, adU, fU, fU2]; done)
    | 7 => by first | rfl | (simp [aN, aL, aD, aS, aM, aE, sTop, sSk, sMa, sLe, xW, xLn, xOl, xB, xSo, xR, xK, sW, sRi, sXp, lEx, lWs, lMd, cU, cT, adU, fU, fU2]; done)
    | 8 => by first | rfl | (simp [aN, aL, aD, aS, aM, aE, sTop, sSk, sMa, sLe, xW, xLn, xOl, xB, xSo, xR, xK, sW, sRi, sXp, lEx, lWs, lMd, cU, cT, adU, fU, fU2]; done)
    | 9 => by first | rfl | (simp [aN, aL, aD, aS, aM, aE, sTop, sSk, sMa, sLe, xW, xLn, xOl, xB, xSo, xR, xK, sW, sRi, sXp, lEx, lWs, lMd, cU, cT, adU, fU, fU2]; done)
    | 10 => by first | rfl | (simp [aN, aL, aD, aS, aM, aE, sTop, sSk, sMa, sLe, xW, xLn, xOl, xB, xSo, xR, xK, sW, sRi, sXp, lEx, lWs, lMd, cU, cT, adU, fU, fU2]; done)
    | 11 => by first | rfl | (simp [aN, aL, aD, aS, aM, aE, sTop, sSk, sMa, sLe, xW, xLn, xOl, xB, xSo, xR, xK, sW, sRi, sXp, lEx, lWs, lMd, cU, cT, adU, fU, fU2]; done)
    | 12 => by first | rfl | (simp [aN, aL, aD, aS, aM, aE, sTop, sSk, sMa, sLe, xW, xLn, xOl, xB, xSo, xR, xK, sW, sRi, sXp, lEx, lWs, lMd, cU, cT, adU, fU, fU2]; done)
    | 13 => by first | rfl | (simp [aN, aL, aD, aS, aM, aE, sTop, sSk, sMa, sLe, xW, xLn, xOl, xB, xSo, xR, xK, sW, sRi, sXp, lEx, lWs, lMd, cU, cT, adU, fU, fU2]; done)
    | 14 => by first | rfl | (simp [aN, aL, aD, aS, aM, aE, sTop, sSk, sMa, sLe, xW, xLn, xOl, xB, xSo, xR, xK, sW, sRi, sXp, lEx, lWs, lMd, cU, cT, adU, fU, fU2]; done)
    | 15 => by first | rfl | (simp [aN, aL, aD, aS, aM, aE, sTop, sSk, sMa, sLe, xW, xLn, xOl, xB, xSo, xR, xK, sW, sRi, sXp, lEx, lWs, lMd, cU, cT, adU, fU, fU2]; done)
    | 16 => by first | rfl | (simp [aN, aL, aD, aS, aM, aE, sTop, sSk, sMa, sLe, xW, xLn, xOl, xB, xSo, xR, xK, sW, sRi, sXp, lEx, lWs, lMd, cU, cT, adU, fU, fU2]; done)
    | 17 => by first | rfl | (simp [aN, aL, aD, aS, aM, aE, sTop, sSk, sMa, sLe, xW, xLn, xOl, xB, xSo, xR, xK, sW, sRi, sXp, lEx, lWs, lMd, cU, cT, adU, fU, fU2]; done)
    | 18 => by first | rfl | (simp [aN, aL, aD, aS, aM, aE, sTop, sSk, sMa, sLe, xW, xLn, xOl, xB, xSo, xR, xK, sW, sRi, sXp, lEx, lWs, lMd, cU, cT, adU, fU, fU2]; done)
    | 19 => by first | rfl | (simp [aN, aL, aD, aS, aM, aE, sTop, sSk, sMa, sLe, xW, xLn, xOl, xB, xSo, xR, xK, sW, sRi, sXp, lEx, lWs, lMd, cU, cT, adU, fU, fU2]; done)
    | 20 => by first | rfl | (simp [aN, aL, aD, aS, aM, aE, sTop, sSk, sMa, sLe, xW, xLn, xOl, xB, xSo, xR, xK, sW, sRi, sXp, lEx, lWs, lMd, cU, cT, adU, fU, fU2]; done)
    | 21 => by first | rfl | (simp [aN, aL, aD, aS, aM, aE, sTop, sSk, sMa, sLe, xW, xLn, xOl, xB, xSo, xR, xK, sW, sRi, sXp, lEx, lWs, lMd, cU, cT, adU, fU, fU2]; done)
    | 22 => by first | rfl | (simp [aN, aL, aD, aS, aM, aE, sTop, sSk, sMa, sLe, xW, xLn, xOl, xB, xSo, xR, xK, sW, sRi, sXp, lEx, lWs, lMd, cU, cT, adU, fU, fU2]; done)
    | 23 => by first | rfl | (simp [aN, aL, aD, aS, aM, aE, sTop, sSk, sMa, sLe, xW, xLn, xOl, xB, xSo, xR, xK, sW, sRi, sXp, lEx, lWs, lMd, cU, cT, adU, fU, fU2]; done)
    | 24 => by first | rfl | (simp [aN, aL, aD, aS, aM, aE, sTop, sSk, sMa, sLe, xW, xLn, xOl, xB, xSo, xR, xK, sW, sRi, sXp, lEx, lWs, lMd, cU, cT, adU, fU, fU2]; done)
    | 25 => by first | rfl | (simp [aN, aL, aD, aS, aM, aE, sTop, sSk, sMa, sLe, xW, xLn, xOl, xB, xSo, xR, xK, sW, sRi, sXp, lEx, lWs, lMd, cU, cT, adU, fU, fU2]; done)
    | 26 => by first | rfl | (simp [aN, aL, aD, aS, aM, aE, sTop, sSk, sMa, sLe, xW, xLn, xOl, xB, xSo, xR, xK, sW, sRi, sXp, lEx, lWs, lMd, cU, cT, adU, fU, fU2]; done)
    | 27 => by
        by_cases h : j = j0
        · subst h; by_cases h2 : k = 0 <;> simp [aN, aL, aD, aS, aM, aE, sTop, sSk, sMa, sLe, lEx, lWs, lMd, cU, cT, adU, fU, fU2, yT, yS, yL, yA, yM, yO, yAn, yMn, oMap, hj, h2, he, exN, va_rf]
        · simp [aN, aL, aD, aS, aM, aE, sTop, sSk, sMa, sLe, lEx, lWs, lMd, cU, cT, adU, fU, fU2, yT, yS, yL, yA, yM, yO, yAn, yMn, oMap, h]
    | 28 => by first | rfl | (simp [aN, aL, aD, aS, aM, aE, sTop, sSk, sMa, sLe, xW, xLn, xOl, xB, xSo, xR, xK, sW, sRi, sXp, lEx, lWs, lMd, cU, cT, adU, fU, fU2]; done)
    | 29 => by first | rfl | (simp [aN, aL, aD, aS, aM, aE, sTop, sSk, sMa, sLe, xW, xLn, xOl, xB, xSo, xR, xK, sW, sRi, sXp, lEx, lWs, lMd, cU, cT, adU, fU, fU2]; done)
    | 30 => by first | rfl | (simp [aN, aL, aD, aS, aM, aE, sTop, sSk, sMa, sLe, xW, xLn, xOl, xB, xSo, xR, xK, sW, sRi, sXp, lEx, lWs, lMd, cU, cT, adU, fU, fU2]; done)
    | 31 => by first | rfl | (simp [aN, aL, aD, aS, aM, aE, sTop, sSk, sMa, sLe, xW, xLn, xOl, xB, xSo, xR, xK, sW, sRi, sXp, lEx, lWs, lMd, cU, cT, adU, fU, fU2]; done)
    | 32 => by
        by_cases h : j = j0
        · subst h; by_cases h2 : k = 0 <;> simp [aN, aL, aD, aS, aM, aE, sTop, sSk, sMa, sLe, lEx, lWs, lMd, cU, cT, adU, fU, fU2, yT, yS, yL, yA, yM, yO, yAn, yMn, oMap, hj, h2, he, exN, va_rf]
        · simp [aN, aL, aD, aS, aM, aE, sTop, sSk, sMa, sLe, lEx, lWs, lMd, cU, cT, adU, fU, fU2, yT, yS, yL, yA, yM, yO, yAn, yMn, oMap, h]
    | 33 => by
        by_cases h : j = j0
        · subst h; by_cases h2 : k = 0 <;> simp [aN, aL, aD, aS, aM, aE, sTop, sSk, sMa, sLe, lEx, lWs, lMd, cU, cT, adU, fU, fU2, yT, yS, yL, yA, yM, yO, yAn, yMn, oMap, hj, h2, he, exN, va_rf]
        · simp [aN, aL, aD, aS, aM, aE, sTop, sSk, sMa, sLe, lEx, lWs, lMd, cU, cT, adU, fU, fU2, yT, yS, yL, yA, yM, yO, yAn, yMn, oMap, h]
    | 34 => by
        by_cases h : j = j0
        · subst h; by_cases h2 : k = 0 <;> simp [aN, aL, aD, aS, aM, aE, sTop, sSk, sMa, sLe, lEx, lWs, lMd, cU, cT, adU, fU, fU2, yT, yS, yL, yA, yM, yO, yAn, yMn, oMap, hj, h2, he, exN, va_rf]
        · simp [aN, aL, aD, aS, aM, aE, sTop, sSk, sMa, sLe, lEx, lWs, lMd, cU, cT, adU, fU, fU2, yT, yS, yL, yA, yM, yO, yAn, yMn, oMap, h]
    | 35 => by
        by_cases h : j = j0
        · subst h; by_cases h2 : k = 0 <;> simp [aN, aL, aD, aS, aM, aE, sTop, sSk, sMa, sLe, lEx, lWs, lMd, cU, cT, adU, fU, fU2, yT, yS, yL, yA, yM, yO, yAn, yMn, oMap, hj, h2, he, exN, va_rf]
        · simp [aN, aL, aD, aS, aM, aE, sTop, sSk, sMa, sLe, lEx, lWs, lMd, cU, cT, adU, fU, fU2, yT, yS, yL, yA, yM, yO, yAn, yMn, oMap, h]
    | 36 => by
        by_cases h : j = j0
        · subst h; by_cases h2 : k = 0 <;> simp [aN, aL, aD, aS, aM, aE, sTop, sSk, sMa, sLe, lEx, lWs, lMd, cU, cT, adU, fU, fU2, yT, yS, yL, yA, yM, yO, yAn, yMn, oMap, hj, h2, he, exN, va_rf]
        · simp [aN, aL, aD, aS, aM, aE, sTop, sSk, sMa, sLe, lEx, lWs, lMd, cU, cT, adU, fU, fU2, yT, yS, yL, yA, yM, yO, yAn, yMn, oMap, h]
    | 37 => by
        by_cases h : j = j0
        · subst h; by_cases h2 : k = 0 <;> simp [aN, aL, aD, aS, aM, aE, sTop, sSk, sMa, sLe, lEx, lWs, lMd, cU, cT, adU, fU, fU2, yT, yS, yL, yA, yM, yO, yAn, yMn, oMap, hj, h2, he, exN, va_rf]
        · simp [aN, aL, aD, aS, aM, aE, sTop, sSk, sMa, sLe, lEx, lWs, lMd, cU, cT, adU, fU, fU2, yT, yS, yL, yA, yM, yO, yAn, yMn, oMap, h]
    | 38 => by first | rfl | (simp [aN, aL, aD, aS, aM, aE, sTop, sSk, sMa, sLe, xW, xLn, xOl, xB, xSo, xR, xK, sW, sRi, sXp, lEx, lWs, lMd, cU, cT, adU, fU, fU2]; done)
    | 39 => by first | rfl | (simp [aN, aL, aD, aS, aM, aE, sTop, sSk, sMa, sLe, xW, xLn, xOl, xB, xSo, xR, xK, sW, sRi, sXp, lEx, lWs, lMd, cU, cT, adU, fU, fU2]; done)
    | n + 40 => by first | rfl | simp [cU, cT])

set_option maxHeartbeats 2000000 in
theorem cT_noR {G : mq_G} {ad : AD} {S : AT} {X : CX} {S2 : AT} {Y : MX} {O : OX} {j0 : Nat} {e8 : exT} (hj : j0 < aL S2) (he : lEx (aE S2 j0) = some e8) : ∀ a j k e, (cT G ad S X (s1Of S2 j0) (yOn Y j0 (e8.1, e8.2.2.2.1, e8.2.2.2.2)) O) a j k = some e → (cU (cT G ad S X S2 Y O) 27 j0 0 (.inr (14, [.ref (ad 28 j0 0), .ref (ad 32 j0 0), .null, .int (nI e8.1), .int (nI e8.2.2.2.1), .int (nI e8.2.2.2.2), va_rf (oMap (lWs (aE S2 j0)) (ad 36 j0 0)), va_rf (oMap (lWs (aE S2 j0)) (ad 37 j0 0))]))) a j k = some e := by
  intro a j k e9 h9
  revert h9
  exact (match a with
    | 0 => by first | exact fun h => h | (simp [aN, aL, aD, aS, aM, aE, sTop, sSk, sMa, sLe, lEx, lWs, lMd, cU, cT, adU, fU, fU2, yT, yS, yL, yA, yM, yO, yAn, yMn, oMap, yOn, exN, va_rf]; done)
    | 1 => by first | exact fun h => h | (simp [aN, aL, aD, aS, aM, aE, sTop, sSk, sMa, sLe, lEx, lWs, lMd, cU, cT, adU, fU, fU2, yT, yS, yL, yA, yM, yO, yAn, yMn, oMap, yOn, exN, va_rf]; done)
    | 2 => by first | exact fun h => h | (simp [aN, aL, aD, aS, aM, aE, sTop, sSk, sMa, sLe, lEx, lWs, lMd, cU, cT, adU, fU, fU2, yT, yS, yL, yA, yM, yO, yAn, yMn, oMap, yOn, exN, va_rf]; done)
    | 3 => by first | exact fun h => h | (simp [aN, aL, aD, aS, aM, aE, sTop, sSk, sMa, sLe, lEx, lWs, lMd, cU, cT, adU, fU, fU2, yT, yS, yL, yA, yM, yO, yAn, yMn, oMap, yOn, exN, va_rf]; done)
    | 4 => by first | exact fun h => h | (simp [aN, aL, aD, aS, aM, aE, sTop, sSk, sMa, sLe, lEx, lWs, lMd, cU, cT, adU, fU, fU2, yT, yS, yL, yA, yM, yO, yAn, yMn, oMap, yOn, exN, va_rf]; done)
    | 5 => by first | exact fun h => h | (simp [aN, aL, aD, aS, aM, aE, sTop, sSk, sMa, sLe, lEx, lWs, lMd, cU, cT, adU, fU, fU2, yT, yS, yL, yA, yM, yO, yAn, yMn, oMap, yOn, exN, va_rf]; done)
    | 6 => by first | exact fun h => h | (simp [aN, aL, aD, aS, aM, aE, sTop, sSk, sMa, sLe, lEx, lWs, lMd, cU, cT, adU, fU, fU2, yT, yS, yL, yA, yM, yO, yAn, yMn, oMap, yOn, exN, va_rf]; done)
    | 7 => by first | exact fun h => h | (simp [aN, aL, aD, aS, aM, aE, sTop, sSk, sMa, sLe, lEx, lWs, lMd, cU, cT, adU, fU, fU2, yT, yS, yL, yA, yM, yO, yAn, yMn, oMap, yOn, exN, va_rf]; done)
    | 8 => by first | exact fun h => h | (simp [aN, aL, aD, aS, aM, aE, sTop, sSk, sMa, sLe, lEx, lWs, lMd, cU, cT, adU, fU, fU2, yT, yS, yL, yA, yM, yO, yAn, yMn, oMap, yOn, exN, va_rf]; done)
    | 9 => by first | exact fun h => h | (simp [aN, aL, aD, aS, aM, aE, sTop, sSk, sMa, sLe, lEx, lWs, lMd, cU, cT, adU, fU, fU2, yT, yS, yL, yA, yM, yO, yAn, yMn, oMap, yOn, exN, va_rf]; done)
    | 10 => by first | exact fun h => h | (simp [aN, aL, aD, aS, aM, aE, sTop, sSk, sMa, sLe, lEx, lWs, lMd, cU, cT, adU, fU, fU2, yT, yS, yL, yA, yM, yO, yAn, yMn, oMap, yOn, exN, va_rf]; done)
    | 11 => by first | exact fun h => h | (simp [aN, aL, aD, aS, aM, aE, sTop, sSk, sMa, sLe, lEx, lWs, lMd, cU, cT, adU, fU, fU2, yT, yS, yL, yA, yM, yO, yAn, yMn, oMap, yOn, exN, va_rf]; done)
    | 12 => by first | exact fun h => h | (simp [aN, aL, aD, aS, aM, aE, sTop, sSk, sMa, sLe, lEx, lWs, lMd, cU, cT, adU, fU, fU2, yT, yS, yL, yA, yM, yO, yAn, yMn, oMap, yOn, exN, va_rf]; done)
    | 13 => by first | exact fun h => h | (simp [aN, aL, aD, aS, aM, aE, sTop, sSk, sMa, sLe, lEx, lWs, lMd, cU, cT, adU, fU, fU2, yT, yS, yL, yA, yM, yO, yAn, yMn, oMap, yOn, exN, va_rf]; done)
    | 14 => by first | exact fun h => h | (simp [aN, aL, aD, aS, aM, aE, sTop, sSk, sMa, sLe, lEx, lWs, lMd, cU, cT, adU, fU, fU2, yT, yS, yL, yA, yM, yO, yAn, yMn, oMap, yOn, exN, va_rf]; done)
    | 15 => by first | exact fun h => h | (simp [aN, aL, aD, aS, aM, aE, sTop, sSk, sMa, sLe, lEx, lWs, lMd, cU, cT, adU, fU, fU2, yT, yS, yL, yA, yM, yO, yAn, yMn, oMap, yOn, exN, va_rf]; done)
    | 16 => by first | exact fun h => h | (simp [aN, aL, aD, aS, aM, aE, sTop, sSk, sMa, sLe, lEx, lWs, lMd, cU, cT, adU, fU, fU2, yT, yS, yL, yA, yM, yO, yAn, yMn, oMap, yOn, exN, va_rf]; done)
    | 17 => by first | exact fun h => h | (simp [aN, aL, aD, aS, aM, aE, sTop, sSk, sMa, sLe, lEx, lWs, lMd, cU, cT, adU, fU, fU2, yT, yS, yL, yA, yM, yO, yAn, yMn, oMap, yOn, exN, va_rf]; done)
    | 18 => by first | exact fun h => h | (simp [aN, aL, aD, aS, aM, aE, sTop, sSk, sMa, sLe, lEx, lWs, lMd, cU, cT, adU, fU, fU2, yT, yS, yL, yA, yM, yO, yAn, yMn, oMap, yOn, exN, va_rf]; done)
    | 19 => by first | exact fun h => h | (simp [aN, aL, aD, aS, aM, aE, sTop, sSk, sMa, sLe, lEx, lWs, lMd, cU, cT, adU, fU, fU2, yT, yS, yL, yA, yM, yO, yAn, yMn, oMap, yOn, exN, va_rf]; done)
    | 20 => by first | exact fun h => h | (simp [aN, aL, aD, aS, aM, aE, sTop, sSk, sMa, sLe, lEx, lWs, lMd, cU, cT, adU, fU, fU2, yT, yS, yL, yA, yM, yO, yAn, yMn, oMap, yOn, exN, va_rf]; done)
    | 21 => by first | exact fun h => h | (simp [aN, aL, aD, aS, aM, aE, sTop, sSk, sMa, sLe, lEx, lWs, lMd, cU, cT, adU, fU, fU2, yT, yS, yL, yA, yM, yO, yAn, yMn, oMap, yOn, exN, va_rf]; done)
    | 22 => by first | exact fun h => h | (simp [aN, aL, aD, aS, aM, aE, sTop, sSk, sMa, sLe, lEx, lWs, lMd, cU, cT, adU, fU, fU2, yT, yS, yL, yA, yM, yO, yAn, yMn, oMap, yOn, exN, va_rf]; done)
    | 23 => by first | exact fun h => h | (simp [aN, aL, aD, aS, aM, aE, sTop, sSk, sMa, sLe, lEx, lWs, lMd, cU, cT, adU, fU, fU2, yT, yS, yL, yA, yM, yO, yAn, yMn, oMap, yOn, exN, va_rf]; done)
    | 24 => by first | exact fun h => h | (simp [aN, aL, aD, aS, aM, aE, sTop, sSk, sMa, sLe, lEx, lWs, lMd, cU, cT, adU, fU, fU2, yT, yS, yL, yA, yM, yO, yAn, yMn, oMap, yOn, exN, va_rf]; done)
    | 25 => by first | exact fun h => h | (simp [aN, aL, aD, aS, aM, aE, sTop, sSk, sMa, sLe, lEx, lWs, lMd, cU, cT, adU, fU, fU2, yT, yS, yL, yA, yM, yO, yAn, yMn, oMap, yOn, exN, va_rf]; done)
    | 26 => by first | exact fun h => h | (simp [aN, aL, aD, aS, aM, aE, sTop, sSk, sMa, sLe, lEx, lWs, lMd, cU, cT, adU, fU, fU2, yT, yS, yL, yA, yM, yO, yAn, yMn, oMap, yOn, exN, va_rf]; done)
    | 27 => by
        by_cases h : j = j0
        · subst h; by_cases h2 : k = 0 <;> simp [aN, aL, aD, aS, aM, aE, sTop, sSk, sMa, sLe, lEx, lWs, lMd, cU, cT, adU, fU, fU2, yT, yS, yL, yA, yM, yO, yAn, yMn, oMap, yOn, exN, va_rf, h2, hj, he]
        · simp [aN, aL, aD, aS, aM, aE, sTop, sSk, sMa, sLe, lEx, lWs, lMd, cU, cT, adU, fU, fU2, yT, yS, yL, yA, yM, yO, yAn, yMn, oMap, yOn, exN, va_rf, h]
    | 28 => by first | exact fun h => h | (simp [aN, aL, aD, aS, aM, aE, sTop, sSk, sMa, sLe, lEx, lWs, lMd, cU, cT, adU, fU, fU2, yT, yS, yL, yA, yM, yO, yAn, yMn, oMap, yOn, exN, va_rf]; done)
    | 29 => by first | exact fun h => h | (simp [aN, aL, aD, aS, aM, aE, sTop, sSk, sMa, sLe, lEx, lWs, lMd, cU, cT, adU, fU, fU2, yT, yS, yL, yA, yM, yO, yAn, yMn, oMap, yOn, exN, va_rf]; done)
    | 30 => by first | exact fun h => h | (simp [aN, aL, aD, aS, aM, aE, sTop, sSk, sMa, sLe, lEx, lWs, lMd, cU, cT, adU, fU, fU2, yT, yS, yL, yA, yM, yO, yAn, yMn, oMap, yOn, exN, va_rf]; done)
    | 31 => by first | exact fun h => h | (simp [aN, aL, aD, aS, aM, aE, sTop, sSk, sMa, sLe, lEx, lWs, lMd, cU, cT, adU, fU, fU2, yT, yS, yL, yA, yM, yO, yAn, yMn, oMap, yOn, exN, va_rf]; done)
    | 32 => by
        by_cases h : j = j0
        · subst h; by_cases h2 : k = 0 <;> simp [aN, aL, aD, aS, aM, aE, sTop, sSk, sMa, sLe, lEx, lWs, lMd, cU, cT, adU, fU, fU2, yT, yS, yL, yA, yM, yO, yAn, yMn, oMap, yOn, exN, va_rf, h2, hj, he]
        · simp [aN, aL, aD, aS, aM, aE, sTop, sSk, sMa, sLe, lEx, lWs, lMd, cU, cT, adU, fU, fU2, yT, yS, yL, yA, yM, yO, yAn, yMn, oMap, yOn, exN, va_rf, h]
    | 33 => by
        by_cases h : j = j0
        · subst h; by_cases h2 : k = 0 <;> simp [aN, aL, aD, aS, aM, aE, sTop, sSk, sMa, sLe, lEx, lWs, lMd, cU, cT, adU, fU, fU2, yT, yS, yL, yA, yM, yO, yAn, yMn, oMap, yOn, exN, va_rf, h2, hj, he]
        · simp [aN, aL, aD, aS, aM, aE, sTop, sSk, sMa, sLe, lEx, lWs, lMd, cU, cT, adU, fU, fU2, yT, yS, yL, yA, yM, yO, yAn, yMn, oMap, yOn, exN, va_rf, h]
    | 34 => by
        by_cases h : j = j0
        · subst h; by_cases h2 : k = 0 <;> simp [aN, aL, aD, aS, aM, aE, sTop, sSk, sMa, sLe, lEx, lWs, lMd, cU, cT, adU, fU, fU2, yT, yS, yL, yA, yM, yO, yAn, yMn, oMap, yOn, exN, va_rf, h2, hj, he]
        · simp [aN, aL, aD, aS, aM, aE, sTop, sSk, sMa, sLe, lEx, lWs, lMd, cU, cT, adU, fU, fU2, yT, yS, yL, yA, yM, yO, yAn, yMn, oMap, yOn, exN, va_rf, h]
    | 35 => by
        by_cases h : j = j0
        · subst h; by_cases h2 : k = 0 <;> simp [aN, aL, aD, aS, aM, aE, sTop, sSk, sMa, sLe, lEx, lWs, lMd, cU, cT, adU, fU, fU2, yT, yS, yL, yA, yM, yO, yAn, yMn, oMap, yOn, exN, va_rf, h2, hj, he]
        · simp [aN, aL, aD, aS, aM, aE, sTop, sSk, sMa, sLe, lEx, lWs, lMd, cU, cT, adU, fU, fU2, yT, yS, yL, yA, yM, yO, yAn, yMn, oMap, yOn, exN, va_rf, h]
    | 36 => by
        by_cases h : j = j0
        · subst h; by_cases h2 : k = 0 <;> simp [aN, aL, aD, aS, aM, aE, sTop, sSk, sMa, sLe, lEx, lWs, lMd, cU, cT, adU, fU, fU2, yT, yS, yL, yA, yM, yO, yAn, yMn, oMap, yOn, exN, va_rf, h2, hj, he]
        · simp [aN, aL, aD, aS, aM, aE, sTop, sSk, sMa, sLe, lEx, lWs, lMd, cU, cT, adU, fU, fU2, yT, yS, yL, yA, yM, yO, yAn, yMn, oMap, yOn, exN, va_rf, h]
    | 37 => by
        by_cases h : j = j0
        · subst h; by_cases h2 : k = 0 <;> simp [aN, aL, aD, aS, aM, aE, sTop, sSk, sMa, sLe, lEx, lWs, lMd, cU, cT, adU, fU, fU2, yT, yS, yL, yA, yM, yO, yAn, yMn, oMap, yOn, exN, va_rf, h2, hj, he]
        · simp [aN, aL, aD, aS, aM, aE, sTop, sSk, sMa, sLe, lEx, lWs, lMd, cU, cT, adU, fU, fU2, yT, yS, yL, yA, yM, yO, yAn, yMn, oMap, yOn, exN, va_rf, h]
    | 38 => by first | exact fun h => h | (simp [aN, aL, aD, aS, aM, aE, sTop, sSk, sMa, sLe, lEx, lWs, lMd, cU, cT, adU, fU, fU2, yT, yS, yL, yA, yM, yO, yAn, yMn, oMap, yOn, exN, va_rf]; done)
    | 39 => by first | exact fun h => h | (simp [aN, aL, aD, aS, aM, aE, sTop, sSk, sMa, sLe, lEx, lWs, lMd, cU, cT, adU, fU, fU2, yT, yS, yL, yA, yM, yO, yAn, yMn, oMap, yOn, exN, va_rf]; done)
    | n + 40 => by first | exact fun h => h | (simp [aN, aL, aD, aS, aM, aE, sTop, sSk, sMa, sLe, lEx, lWs, lMd, cU, cT, adU, fU, fU2, yT, yS, yL, yA, yM, yO, yAn, yMn, oMap, yOn, exN, va_rf]; done))

theorem WR_wrR {G : mq_G} {f g : mq_F} {ad : AD} {S : AT} {X : CX} {S2 : AT} {Y : MX} {O : OX} {f1 : mq_F} {j : Nat} {e : exT} (hR : WR G f ad S X S2 Y O) (t9 : eqT) (q : Nat) (hj : j < aL S2) (he : lEx (aE S2 j) = some e) (hq : f q = none) (h1 : f1 = mq_up f q (cIn G 4 (eqF t9))) (hg : g = mq_up f1 (ad 27 j 0) (.inr (14, [.ref (ad 28 j 0), .ref (ad 32 j 0), .ref (ad 35 j 0), .int (nI e.1), .int (nI (e.2.2.2.1 + 1)), .int (nI e.2.2.2.2), .ref (ad 35 j 0), .ref q]))) : WR G g (adU (adU ad 37 j 0 q) 36 j 0 (ad 35 j 0)) S X (sLe S2 j (some (e.1, e.2.1, e.2.2.1, e.2.2.2.1 + 1, e.2.2.2.2), some (e.2.2.1, t9), lMd (aE S2 j))) Y O := by
  have r1 := RR.new hR (a := 37) (j := j) (k := 0) hq h1
  have r2 := RR.same r1 (a := 36) (j := j) (k := 0) (b := 35) (jb := j) (kb := 0) ((cU_n (by simp)).trans (t35 hj he)) rfl rfl
  have e11 : adU ad 37 j 0 q 35 j 0 = ad 35 j 0 := rfl
  rw [e11] at r2
  have r3 := RR.put r2 (a := 27) (j := j) (k := 0) ((cU_n (by simp)).trans ((cU_n (by simp)).trans (t27 hj))) rfl hg
  rw [cT_wr t9 q hj he] at r3; exact r3
theorem WR_rtR {G : mq_G} {f g : mq_F} {ad : AD} {S : AT} {X : CX} {S2 : AT} {Y : MX} {O : OX} {f1 : mq_F} {j : Nat} {e : exT} (hR : WR G f ad S X S2 Y O) (t9 : eqT) (q : Nat) (hj : j < aL S2) (he : lEx (aE S2 j) = some e) (hq : f q = none) (h1 : f1 = mq_up f q (cIn G 4 (eqF t9))) (hg : g = mq_up f1 (ad 27 j 0) (.inr (14, [.ref (ad 28 j 0), .ref (ad 32 j 0), .ref q, .int (nI e.1), .int (nI e.2.2.2.1), .int (nI e.2.2.2.2), va_rf (oMap (lWs (aE S2 j)) (ad 36 j 0)), va_rf (oMap (lWs (aE S2 j)) (ad 37 j 0))]))) : WR G g (adU ad 35 j 0 q) S X (sLe S2 j (some (e.1, e.2.1, t9, e.2.2.2.1, e.2.2.2.2), lWs (aE S2 j), lMd (aE S2 j))) Y O := by
  have r1 := RR.new hR (a := 35) (j := j) (k := 0) hq h1
  have r3 := RR.put r1 (a := 27) (j := j) (k := 0) ((cU_n (by simp)).trans (t27 hj)) rfl hg
  rw [cT_rR t9 q hj he] at r3; exact r3
theorem WR_noR {G : mq_G} {f g : mq_F} {ad : AD} {S : AT} {X : CX} {S2 : AT} {Y : MX} {O : OX} {j : Nat} {e : exT} (hR : WR G f ad S X S2 Y O) (hj : j < aL S2) (he : lEx (aE S2 j) = some e) (hg : g = mq_up f (ad 27 j 0) (.inr (14, [.ref (ad 28 j 0), .ref (ad 32 j 0), .null, .int (nI e.1), .int (nI e.2.2.2.1), .int (nI e.2.2.2.2), va_rf (oMap (lWs (aE S2 j)) (ad 36 j 0)), va_rf (oMap (lWs (aE S2 j)) (ad 37 j 0))]))) : WR G g ad S X (s1Of S2 j) (yOn Y j (e.1, e.2.2.2.1, e.2.2.2.2)) O :=
  RR.sub (RR.put hR (t27 hj) rfl hg) (cT_noR hj he)

set_option maxHeartbeats 4000000 in
set_option maxRecDepth 100000 in
theorem c_X11_follows (l : Launch) (G : mq_G) (A : Nat → Prop) (f : mq_F) (x y : Nat) (u9 v9 : eqT) : Met l yX11_follows wsX11_follows ({ frames := 0, cells := 0, slots := 0, locals := 0 } : Room) (mq_Pc G A f (f x = some (cIn G 4 (eqF u9)) ∧ f y = some (cIn G 4 (eqF v9))) [.ref x, .ref y]) (mq_Qi G A (fun r g => f = g ∧ r = zb (eq_same u9 v9))) 0 0 A := by
  refine Met.ofW (cc := cX11_follows) (maxL := 10) (ret := (some .boolean)) (by decide) rfl ?_
  intro p e s m args below meth c s₁ B hml hv
  obtain ⟨rfl, ⟨hK, hZ, hM, hA⟩, hp⟩ := hv
  have hx := B.exec
  have hb := B.bytes
  have hr := B.returns
  have hts := atoms_spec (ws := wsX11_follows) B.pre
  have hown : s.vm.findClass RX11 = some m.cls := findClass_of_methodNamed B.named
  have hlocks := B.notSynchronized
  have hS : va_S A s.heap s.heap [] := va_S.rf
  have hl := lv_entry ([.ref x, .ref y]) (n := 10) (Nat.le_of_ble_eq_true rfl)
  rw [lg_entry_eq]
  generalize (lg_sl ([.ref x, .ref y]) ++ List.replicate (10 - (lg_sl ([.ref x, .ref y])).length) Slot.unset).toArray = ls at hl ⊢
  have hl : lv_has ls 10 [(0, .ref x), (1, .ref y)] := hl
  obtain ⟨h0, h1⟩ := hp
  refine lv_aload_n hx hb dX11_follows_0 rfl (lv_at hl 0 rfl) ?_
  refine lv_iconst (v := 0) hx hb dX11_follows_1 (by decide) ?_
  refine mq_iald hx hb hK hM h0 (vp_in_nI (n := 0) (by decide) (by decide)) dX11_follows_2 ?_
  rw [show (0 : Int32).toNatClampNeg = 0 from rfl]
  rw [show (eqF u9) 0 = u9.1 from rfl]
  refine lv_aload_n hx hb dX11_follows_3 rfl (lv_at hl 0 rfl) ?_
  refine lv_iconst (v := 2) hx hb dX11_follows_4 (by decide) ?_
  refine mq_iald hx hb hK hM h0 (vp_in_nI (n := 2) (by decide) (by decide)) dX11_follows_5 ?_
  rw [show (2 : Int32).toNatClampNeg = 2 from rfl]
  rw [show (eqF u9) 2 = u9.2.2.1 from rfl]
  refine lv_isub hx hb dX11_follows_6 ?_
  refine lv_i2l hx hb dX11_follows_7 rfl ?_
  refine lv_lstore_n (lv' := [(2, .long ((u9.1 - u9.2.2.1).toInt64)), (0, .ref x), (1, .ref y)]) hx hb dX11_follows_8 rfl hl (by decide) rfl (fun ls hl => ?_)
  refine lv_aload_n hx hb dX11_follows_9 rfl (lv_at hl 1 rfl) ?_
  refine lv_iconst (v := 3) hx hb dX11_follows_10 (by decide) ?_
  refine mq_iald hx hb hK hM h0 (vp_in_nI (n := 3) (by decide) (by decide)) dX11_follows_11 ?_
  rw [show (3 : Int32).toNatClampNeg = 3 from rfl]
  rw [show (eqF u9) 3 = u9.2.2.2 from rfl]
  refine lv_aload_n hx hb dX11_follows_12 rfl (lv_at hl 1 rfl) ?_
  refine lv_iconst (v := 1) hx hb dX11_follows_13 (by decide) ?_
  refine mq_iald hx hb hK hM h0 (vp_in_nI (n := 1) (by decide) (by decide)) dX11_follows_14 ?_
  rw [show (1 : Int32).toNatClampNeg = 1 from rfl]
  rw [show (eqF u9) 1 = u9.2.1 from rfl]
  refine lv_isub hx hb dX11_follows_15 ?_
  refine lv_i2l hx hb dX11_follows_16 rfl ?_
  refine lv_lstore (lv' := [(4, .long ((u9.2.2.2 - u9.2.1).toInt64)), (2, .long ((u9.1 - u9.2.2.1).toInt64)), (0, .ref x), (1, .ref y)]) hx hb dX11_follows_17 hl (by decide) rfl (fun ls hl => ?_)
  refine lv_aload_n hx hb dX11_follows_19 rfl (lv_at hl 3 rfl) ?_
  refine lv_iconst (v := 0) hx hb dX11_follows_20 (by decide) ?_
  refine mq_iald hx hb hK hM h1 (vp_in_nI (n := 0) (by decide) (by decide)) dX11_follows_21 ?_
  rw [show (0 : Int32).toNatClampNeg = 0 from rfl]
  rw [show (eqF v9) 0 = v9.1 from rfl]
  refine lv_aload_n hx hb dX11_follows_22 rfl (lv_at hl 3 rfl) ?_
  refine lv_iconst (v := 2) hx hb dX11_follows_23 (by decide) ?_
  refine mq_iald hx hb hK hM h1 (vp_in_nI (n := 2) (by decide) (by decide)) dX11_follows_24 ?_
  rw [show (2 : Int32).toNatClampNeg = 2 from rfl]
  rw [show (eqF v9) 2 = v9.2.2.1 from rfl]
  refine lv_isub hx hb dX11_follows_25 ?_
  refine lv_i2l hx hb dX11_follows_26 rfl ?_
  refine lv_lstore (lv' := [(6, .long ((v9.1 - v9.2.2.1).toInt64)), (4, .long ((u9.2.2.2 - u9.2.1).toInt64)), (2, .long ((u9.1 - u9.2.2.1).toInt64)), (0, .ref x), (1, .ref y)]) hx hb dX11_follows_27 hl (by decide) rfl (fun ls hl => ?_)
  refine lv_aload_n hx hb dX11_follows_29 rfl (lv_at hl 4 rfl) ?_
  refine lv_iconst (v := 3) hx hb dX11_follows_30 (by decide) ?_
  refine mq_iald hx hb hK hM h1 (vp_in_nI (n := 3) (by decide) (by decide)) dX11_follows_31 ?_
  rw [show (3 : Int32).toNatClampNeg = 3 from rfl]
  rw [show (eqF v9) 3 = v9.2.2.2 from rfl]
  refine lv_aload_n hx hb dX11_follows_32 rfl (lv_at hl 4 rfl) ?_
  refine lv_iconst (v := 1) hx hb dX11_follows_33 (by decide) ?_
  refine mq_iald hx hb hK hM h1 (vp_in_nI (n := 1) (by decide) (by decide)) dX11_follows_34 ?_
  rw [show (1 : Int32).toNatClampNeg = 1 from rfl]
  rw [show (eqF v9) 1 = v9.2.1 from rfl]
  refine lv_isub hx hb dX11_follows_35 ?_
  refine lv_i2l hx hb dX11_follows_36 rfl ?_
  refine lv_lstore (lv' := [(8, .long ((v9.2.2.2 - v9.2.1).toInt64)), (6, .long ((v9.1 - v9.2.2.1).toInt64)), (4, .long ((u9.2.2.2 - u9.2.1).toInt64)), (2, .long ((u9.1 - u9.2.2.1).toInt64)), (0, .ref x), (1, .ref y)]) hx hb dX11_follows_37 hl (by decide) rfl (fun ls hl => ?_)
  refine lv_lload_n hx hb dX11_follows_39 rfl (lv_at hl 3 rfl) ?_
  refine lv_lconst (v := 0) hx hb dX11_follows_40 (by decide) ?_
  refine W.lcmp hx hb dX11_follows_41 ?_
  refine lv_if_eq (tgt := 52) hx hb dX11_follows_42 (by decide) (fun c_42 => ?_) (fun c_42 => ?_)
  · rw [lg_cmp_eq] at c_42
    refine lv_lload_n hx hb dX11_follows_52 rfl (lv_at hl 3 rfl) ?_
    refine lv_lload hx hb dX11_follows_53 (lv_at hl 1 rfl) ?_
    refine W.lcmp hx hb dX11_follows_55 ?_
    refine lv_if_ne (tgt := 90) hx hb dX11_follows_56 (by decide) (fun c_56 => ?_) (fun c_56 => ?_)
    · rw [lg_cmp_eq] at c_56
      refine lv_iconst (v := 0) hx hb dX11_follows_90 (by decide) ?_
      exact mq_zret (v := 0) hx hb hr (rfl) hlocks hM hS (⟨rfl, by rw [eq_same, fol_zz (by simp [c_42])]; simp [zb, c_56]⟩) dX11_follows_91
    · rw [lg_cmp_eq] at c_56
      refine lv_lload hx hb dX11_follows_59 (lv_at hl 2 rfl) ?_
      refine lv_lconst (v := 0) hx hb dX11_follows_61 (by decide) ?_
      refine W.lcmp hx hb dX11_follows_62 ?_
      refine lv_if_ne (tgt := 70) hx hb dX11_follows_63 (by decide) (fun c_63 => ?_) (fun c_63 => ?_)
      · rw [lg_cmp_eq] at c_63
        refine lv_iconst (v := 0) hx hb dX11_follows_70 (by decide) ?_
        refine lv_lload hx hb dX11_follows_71 (lv_at hl 0 rfl) ?_
        refine lv_lconst (v := 0) hx hb dX11_follows_73 (by decide) ?_
        refine W.lcmp hx hb dX11_follows_74 ?_
        refine lv_if_ne (tgt := 82) hx hb dX11_follows_75 (by decide) (fun c_75 => ?_) (fun c_75 => ?_)
        · rw [lg_cmp_eq] at c_75
          refine lv_iconst (v := 0) hx hb dX11_follows_82 (by decide) ?_
          refine lv_icmp_ne (tgt := 90) hx hb dX11_follows_83 (by decide) (fun c_83 => absurd c_83 (by decide)) (fun c_83 => ?_)
          refine lv_iconst (v := 1) hx hb dX11_follows_86 (by decide) ?_
          refine lv_goto (tgt := 91) hx hb dX11_follows_87 (by decide) ?_
          exact mq_zret (v := 1) hx hb hr (rfl) hlocks hM hS (⟨rfl, by rw [eq_same, fol_zz (by simp [c_42])]; simp [zb, c_56, c_63, c_75]⟩) dX11_follows_91
        · rw [lg_cmp_eq] at c_75
          refine lv_iconst (v := 1) hx hb dX11_follows_78 (by decide) ?_
          refine lv_goto (tgt := 83) hx hb dX11_follows_79 (by decide) ?_
          refine lv_icmp_ne (tgt := 90) hx hb dX11_follows_83 (by decide) (fun c_83 => ?_) (fun c_83 => absurd c_83 (by decide))
          refine lv_iconst (v := 0) hx hb dX11_follows_90 (by decide) ?_
          exact mq_zret (v := 0) hx hb hr (rfl) hlocks hM hS (⟨rfl, by rw [eq_same, fol_zz (by simp [c_42])]; simp [zb, c_56, c_63, c_75]⟩) dX11_follows_91
      · rw [lg_cmp_eq] at c_63
        refine lv_iconst (v := 1) hx hb dX11_follows_66 (by decide) ?_
        refine lv_goto (tgt := 71) hx hb dX11_follows_67 (by decide) ?_
        refine lv_lload hx hb dX11_follows_71 (lv_at hl 0 rfl) ?_
        refine lv_lconst (v := 0) hx hb dX11_follows_73 (by decide) ?_
        refine W.lcmp hx hb dX11_follows_74 ?_
        refine lv_if_ne (tgt := 82) hx hb dX11_follows_75 (by decide) (fun c_75 => ?_) (fun c_75 => ?_)
        · rw [lg_cmp_eq] at c_75
          refine lv_iconst (v := 0) hx hb dX11_follows_82 (by decide) ?_
          refine lv_icmp_ne (tgt := 90) hx hb dX11_follows_83 (by decide) (fun c_83 => ?_) (fun c_83 => absurd c_83 (by decide))
          refine lv_iconst (v := 0) hx hb dX11_follows_90 (by decide) ?_
          exact mq_zret (v := 0) hx hb hr (rfl) hlocks hM hS (⟨rfl, by rw [eq_same, fol_zz (by simp [c_42])]; simp [zb, c_56, c_63, c_75]⟩) dX11_follows_91
        · rw [lg_cmp_eq] at c_75
          refine lv_iconst (v := 1) hx hb dX11_follows_78 (by decide) ?_
          refine lv_goto (tgt := 83) hx hb dX11_follows_79 (by decide) ?_
          refine lv_icmp_ne (tgt := 90) hx hb dX11_follows_83 (by decide) (fun c_83 => absurd c_83 (by decide)) (fun c_83 => ?_)
          refine lv_iconst (v := 1) hx hb dX11_follows_86 (by decide) ?_
          refine lv_goto (tgt := 91) hx hb dX11_follows_87 (by decide) ?_
          exact mq_zret (v := 1) hx hb hr (rfl) hlocks hM hS (⟨rfl, by rw [eq_same, fol_zz (by simp [c_42])]; simp [zb, c_56, c_63, c_75]⟩) dX11_follows_91
  · rw [lg_cmp_eq] at c_42
    refine lv_lload hx hb dX11_follows_45 (lv_at hl 1 rfl) ?_
    refine lv_lconst (v := 0) hx hb dX11_follows_47 (by decide) ?_
    refine W.lcmp hx hb dX11_follows_48 ?_
    refine lv_if_ne (tgt := 92) hx hb dX11_follows_49 (by decide) (fun c_49 => ?_) (fun c_49 => ?_)
    · rw [lg_cmp_eq] at c_49
      refine lv_lload hx hb dX11_follows_92 (lv_at hl 2 rfl) ?_
      refine lv_lload hx hb dX11_follows_94 (lv_at hl 1 rfl) ?_
      refine lv_lmul hx hb dX11_follows_96 ?_
      refine lv_lload hx hb dX11_follows_97 (lv_at hl 0 rfl) ?_
      refine lv_lload_n hx hb dX11_follows_99 rfl (lv_at hl 3 rfl) ?_
      refine lv_lmul hx hb dX11_follows_100 ?_
      refine W.lcmp hx hb dX11_follows_101 ?_
      refine lv_if_ne (tgt := 109) hx hb dX11_follows_102 (by decide) (fun c_102 => ?_) (fun c_102 => ?_)
      · rw [lg_cmp_eq] at c_102
        refine lv_iconst (v := 0) hx hb dX11_follows_109 (by decide) ?_
        exact mq_zret (v := 0) hx hb hr (rfl) hlocks hM hS (⟨rfl, by rw [eq_same, fol_nz (by simp [c_42, c_49])]; simp [zb, c_102]⟩) dX11_follows_110
      · rw [lg_cmp_eq] at c_102
        refine lv_iconst (v := 1) hx hb dX11_follows_105 (by decide) ?_
        refine lv_goto (tgt := 110) hx hb dX11_follows_106 (by decide) ?_
        exact mq_zret (v := 1) hx hb hr (rfl) hlocks hM hS (⟨rfl, by rw [eq_same, fol_nz (by simp [c_42, c_49])]; simp [zb, c_102]⟩) dX11_follows_110
    · rw [lg_cmp_eq] at c_49
      refine lv_lload_n hx hb dX11_follows_52 rfl (lv_at hl 3 rfl) ?_
      refine lv_lload hx hb dX11_follows_53 (lv_at hl 1 rfl) ?_
      refine W.lcmp hx hb dX11_follows_55 ?_
      refine lv_if_ne (tgt := 90) hx hb dX11_follows_56 (by decide) (fun c_56 => ?_) (fun c_56 => ?_)
      · rw [lg_cmp_eq] at c_56
        refine lv_iconst (v := 0) hx hb dX11_follows_90 (by decide) ?_
        exact mq_zret (v := 0) hx hb hr (rfl) hlocks hM hS (⟨rfl, by rw [eq_same, fol_zz (by simp [c_49])]; simp [zb, c_56]⟩) dX11_follows_91
      · rw [lg_cmp_eq] at c_56
        refine lv_lload hx hb dX11_follows_59 (lv_at hl 2 rfl) ?_
        refine lv_lconst (v := 0) hx hb dX11_follows_61 (by decide) ?_
        refine W.lcmp hx hb dX11_follows_62 ?_
        refine lv_if_ne (tgt := 70) hx hb dX11_follows_63 (by decide) (fun c_63 => ?_) (fun c_63 => ?_)
        · rw [lg_cmp_eq] at c_63
          refine lv_iconst (v := 0) hx hb dX11_follows_70 (by decide) ?_
          refine lv_lload hx hb dX11_follows_71 (lv_at hl 0 rfl) ?_
          refine lv_lconst (v := 0) hx hb dX11_follows_73 (by decide) ?_
          refine W.lcmp hx hb dX11_follows_74 ?_
          refine lv_if_ne (tgt := 82) hx hb dX11_follows_75 (by decide) (fun c_75 => ?_) (fun c_75 => ?_)
          · rw [lg_cmp_eq] at c_75
            refine lv_iconst (v := 0) hx hb dX11_follows_82 (by decide) ?_
            refine lv_icmp_ne (tgt := 90) hx hb dX11_follows_83 (by decide) (fun c_83 => absurd c_83 (by decide)) (fun c_83 => ?_)
            refine lv_iconst (v := 1) hx hb dX11_follows_86 (by decide) ?_
            refine lv_goto (tgt := 91) hx hb dX11_follows_87 (by decide) ?_
            exact mq_zret (v := 1) hx hb hr (rfl) hlocks hM hS (⟨rfl, by rw [eq_same, fol_zz (by simp [c_49])]; simp [zb, c_56, c_63, c_75]⟩) dX11_follows_91
          · rw [lg_cmp_eq] at c_75
            refine lv_iconst (v := 1) hx hb dX11_follows_78 (by decide) ?_
            refine lv_goto (tgt := 83) hx hb dX11_follows_79 (by decide) ?_
            refine lv_icmp_ne (tgt := 90) hx hb dX11_follows_83 (by decide) (fun c_83 => ?_) (fun c_83 => absurd c_83 (by decide))
            refine lv_iconst (v := 0) hx hb dX11_follows_90 (by decide) ?_
            exact mq_zret (v := 0) hx hb hr (rfl) hlocks hM hS (⟨rfl, by rw [eq_same, fol_zz (by simp [c_49])]; simp [zb, c_56, c_63, c_75]⟩) dX11_follows_91
        · rw [lg_cmp_eq] at c_63
          refine lv_iconst (v := 1) hx hb dX11_follows_66 (by decide) ?_
          refine lv_goto (tgt := 71) hx hb dX11_follows_67 (by decide) ?_
          refine lv_lload hx hb dX11_follows_71 (lv_at hl 0 rfl) ?_
          refine lv_lconst (v := 0) hx hb dX11_follows_73 (by decide) ?_
          refine W.lcmp hx hb dX11_follows_74 ?_
          refine lv_if_ne (tgt := 82) hx hb dX11_follows_75 (by decide) (fun c_75 => ?_) (fun c_75 => ?_)
          · rw [lg_cmp_eq] at c_75
            refine lv_iconst (v := 0) hx hb dX11_follows_82 (by decide) ?_
            refine lv_icmp_ne (tgt := 90) hx hb dX11_follows_83 (by decide) (fun c_83 => ?_) (fun c_83 => absurd c_83 (by decide))
            refine lv_iconst (v := 0) hx hb dX11_follows_90 (by decide) ?_
            exact mq_zret (v := 0) hx hb hr (rfl) hlocks hM hS (⟨rfl, by rw [eq_same, fol_zz (by simp [c_49])]; simp [zb, c_56, c_63, c_75]⟩) dX11_follows_91
          · rw [lg_cmp_eq] at c_75
            refine lv_iconst (v := 1) hx hb dX11_follows_78 (by decide) ?_
            refine lv_goto (tgt := 83) hx hb dX11_follows_79 (by decide) ?_
            refine lv_icmp_ne (tgt := 90) hx hb dX11_follows_83 (by decide) (fun c_83 => absurd c_83 (by decide)) (fun c_83 => ?_)
            refine lv_iconst (v := 1) hx hb dX11_follows_86 (by decide) ?_
            refine lv_goto (tgt := 91) hx hb dX11_follows_87 (by decide) ?_
            exact mq_zret (v := 1) hx hb hr (rfl) hlocks hM hS (⟨rfl, by rw [eq_same, fol_zz (by simp [c_49])]; simp [zb, c_56, c_63, c_75]⟩) dX11_follows_91

set_option maxHeartbeats 4000000 in
set_option maxRecDepth 100000 in
theorem c_X11_step (l : Launch) (G : mq_G) (A : Nat → Prop) (f : mq_F) (ad : AD) (S : AT) (X : CX) (S2 : AT) (Y : MX) (O : OX) (T : Nat) (ui va vb vc vd : Int32) : Met l yX11_step wsX11_step ({ frames := 13, cells := 2, slots := 804, locals := 258 } : Room) (mq_Pc G A f (WR G f ad S X S2 Y O ∧ mOK S2 Y T ∧ T < 512) [.ref (ad 20 0 0), .int ui, .int va, .int vb, .int vc, .int vd]) (mq_Qi G A (fun r g => ∃ c9 S9 Y9 ad9, spStep S2 ui va vb vc vd = (c9, r, S9) ∧ WR G g ad9 S X S9 (yThr Y9 (nI c9)) O ∧ mCp S9 Y9 ∧ adK ad ad9)) 2 804 A := by
  refine Met.ofW (cc := cX11_step) (maxL := 9) (ret := (some .char)) (by decide) rfl ?_
  intro p e s m args below meth c s₁ B hml hv
  obtain ⟨rfl, ⟨hK, hZ, hM, hA⟩, hp⟩ := hv
  have hx := B.exec
  have hb := B.bytes
  have hr := B.returns
  have hts := atoms_spec (ws := wsX11_step) B.pre
  have hown : s.vm.findClass RX11 = some m.cls := findClass_of_methodNamed B.named
  have hlocks := B.notSynchronized
  have hS : va_S A s.heap s.heap [] := va_S.rf
  have hl := lv_entry ([.ref (ad 20 0 0), .int ui, .int va, .int vb, .int vc, .int vd]) (n := 9) (Nat.le_of_ble_eq_true rfl)
  rw [lg_entry_eq]
  generalize (lg_sl ([.ref (ad 20 0 0), .int ui, .int va, .int vb, .int vc, .int vd]) ++ List.replicate (9 - (lg_sl ([.ref (ad 20 0 0), .int ui, .int va, .int vb, .int vc, .int vd])).length) Slot.unset).toArray = ls at hl ⊢
  have hl : lv_has ls 9 [(0, .ref (ad 20 0 0)), (1, .int ui), (2, .int va), (3, .int vb), (4, .int vc), (5, .int vd)] := hl
  have w0 := hts (.fieldLink RX11 19 "TutorlightModel" "thrown" "I") (List.mem_of_getElem? (i := 1) rfl)
  have w1 := hts (.fieldLink RX11 16 "TutorlightModel" "learners" "Ljava/util/ArrayList;") (List.mem_of_getElem? (i := 2) rfl)
  have w2 := hts (.classLink RX11 46 "TutorlightModel$Learner") (List.mem_of_getElem? (i := 3) rfl)
  have w3 := hts (.arrayClass .int) (List.mem_of_getElem? (i := 4) rfl)
  have w4 := hts (.fieldLink RX11 186 "TutorlightModel$Learner" "equation" "[I") (List.mem_of_getElem? (i := 5) rfl)
  have w5 := hts (.fieldLink RX11 188 "TutorlightModel$Learner" "skill" "I") (List.mem_of_getElem? (i := 9) rfl)
  have w6 := hts (.fieldLink RX11 191 "TutorlightModel$Learner" "wrong" "I") (List.mem_of_getElem? (i := 8) rfl)
  have w7 := hts (.fieldLink RX11 194 "TutorlightModel$Learner" "hints" "I") (List.mem_of_getElem? (i := 10) rfl)
  have w8 := hts (.fieldLink RX11 203 "TutorlightModel$Learner" "before" "[I") (List.mem_of_getElem? (i := 6) rfl)
  have w9 := hts (.fieldLink RX11 206 "TutorlightModel$Learner" "after" "[I") (List.mem_of_getElem? (i := 7) rfl)
  have nX11 : ∀ w ∈ wsX110, w ∈ wsX11_step := fun _ h => List.mem_cons_of_mem _ (List.mem_append_left _ (List.mem_append_left _ (List.mem_append_left _ (List.mem_append_left _ (List.mem_append_left _ (List.mem_append_left _ (List.mem_append_right _ h)))))))
  have nX9 : ∀ w ∈ wsX90, w ∈ wsX11_step := fun _ h => List.mem_cons_of_mem _ (List.mem_append_left _ (List.mem_append_left _ (List.mem_append_left _ (List.mem_append_left _ (List.mem_append_left _ (List.mem_append_right _ h))))))
  obtain ⟨hR, hO, hT5⟩ := hp
  obtain ⟨⟨X9, ⟨hn, hl4, hd2, hT⟩, hsk, hma, hdc, hle, -⟩, ⟨hns, hnc⟩, ⟨hls, hlc⟩, hac, hmc⟩ := id hO
  obtain ⟨⟨X8, hX8⟩, -⟩ := id hO
  have y20_283 := hR.1 _ _ _ _ (t20)
  refine lv_aload_n hx hb dX11_step_0 rfl (lv_at hl 0 rfl) ?_
  refine lv_iconst (v := 0) hx hb dX11_step_1 (by decide) ?_
  refine mq_put (ci := 16) (v := .int 0) (ty := .int) (C := RX11) (T := TX11) (N := 4) (fs' := [.int 0, .int (nI (aD S2)), .ref (ad 21 0 0), .ref (ad 23 0 0)]) hx hb hts nX11 tyX11 tyX11_ok nmX11 hown hK hM hS y20_283 rfl 0 (by decide) w0 (fun _ h9 => h9) rfl (by decide +kernel) rfl rfl (Nat.le_of_ble_eq_true rfl) dX11_step_2 rfl (fun f_1 H locs e_2 hM hS => ?_)
  have h_3 : f_1 (ad 20 0 0) = some (.inr (16, [.int 0, .int (nI (aD S2)), .ref (ad 21 0 0), .ref (ad 23 0 0)])) := mq_s e_2
  have hR1 := WR_yt hR e_2
  have K64 : ∀ (b9 : Bool), (b9 = (tld va && (tld vb && (tld vc && tld vd)))) → ∀ (H : Heap) (locs : List Loc), mq_W G.1 A f_1 H → va_S A s.heap H locs → ∀ (ls : Array Slot), lv_has ls 9 [(0, .ref (ad 20 0 0)), (1, .int ui), (2, .int va), (3, .int vb), (4, .int vc), (5, .int vd)] → W p l e (headSpec wsX11_step ({ frames := 13, cells := 2, slots := 804, locals := 258 } : Room)).room s m ([.ref (ad 20 0 0), .int ui, .int va, .int vb, .int vc, .int vd] : List Value).toArray below meth c H locs 0 0 (MQ below (mq_Qi G A (fun r g => ∃ c9 S9 Y9 ad9, spStep S2 ui va vb vc vd = (c9, r, S9) ∧ WR G g ad9 S X S9 (yThr Y9 (nI c9)) O ∧ mCp S9 Y9 ∧ adK ad ad9)) ([.ref (ad 20 0 0), .int ui, .int va, .int vb, .int vc, .int vd] : List Value).toArray s 2 804 A) (F0 m 64 ls [.int (zb b9)]) := by
    intro b9 hb9 H locs hM hS ls hl
    refine lv_istore (lv' := [(6, .int (zb b9)), (0, .ref (ad 20 0 0)), (1, .int ui), (2, .int va), (3, .int vb), (4, .int vc), (5, .int vd)]) hx hb dX11_step_64 hl (by decide) rfl (fun ls hl => ?_)
    refine lv_aload_n hx hb dX11_step_66 rfl (lv_at hl 1 rfl) ?_
    have y23_279 := hR1.1 _ _ _ _ (t23)
    refine lv_aload_n hx hb dX11_step_67 rfl (lv_at hl 1 rfl) ?_
    refine lv_iload_n hx hb dX11_step_68 rfl (lv_at hl 2 rfl) ?_
    refine mq_calli (va_runV (As := [.int ui]) (rest := [.ref (ad 20 0 0)]) ⟨hx, hb, hml, hown, hts⟩ (c_X11_noLearner l G A f_1 (ad 20 0 0) (ad 23 0 0) ui 0 (nI (aD S2)) (ad 21 0 0) (lsD G (yL Y).2 (ad 24 0 0)) (aL S2) (yL Y).1) (cwV 1 hts gX11_step_X11_noLearner rfl rfl rfl (by decide +kernel) ⟨Nat.le_of_ble_eq_true rfl, Nat.le_of_ble_eq_true rfl⟩) (mq_preV hK hZ hS hA hM (q := (RX11, TX11, 4)) h_3 rfl (⟨h_3, y23_279, by omega⟩) _) rfl rfl hl.1 rfl (lv_room (Nat.le_of_ble_eq_true rfl)) dX11_step_69 ⟨Nat.le_of_ble_eq_true rfl, Nat.le_of_ble_eq_true rfl⟩) hS (fun r69 g69 H locs p69 hM hS => ?_)
    refine W.widen (k := 0) (n := 0) (Nat.le_of_ble_eq_true rfl) (Nat.le_of_ble_eq_true rfl) ?_
    obtain ⟨rfl, rfl⟩ := p69
    refine lv_iconst (v := 1) hx hb dX11_step_72 (by decide) ?_
    refine mq_calli (va_runV (As := [.int (zb (!vI ui (aL S2))), .int 1]) (rest := []) ⟨hx, hb, hml, hown, hts⟩ (c_X11_fails l G A f_1 (ad 20 0 0) (!vI ui (aL S2)) 1 0 (nI (aD S2)) (ad 21 0 0) (ad 23 0 0)) (cwV 2 hts gX11_step_X11_fails rfl rfl rfl (by decide +kernel) ⟨Nat.le_of_ble_eq_true rfl, Nat.le_of_ble_eq_true rfl⟩) (mq_preV hK hZ hS hA hM (q := (RX11, TX11, 4)) h_3 rfl (h_3) _) rfl rfl hl.1 rfl (lv_room (Nat.le_of_ble_eq_true rfl)) dX11_step_73 ⟨Nat.le_of_ble_eq_true rfl, Nat.le_of_ble_eq_true rfl⟩) hS (fun r73 g73 H locs p73 hM hS => ?_)
    refine W.widen (k := 0) (n := 0) (Nat.le_of_ble_eq_true rfl) (Nat.le_of_ble_eq_true rfl) ?_
    refine lv_if_ne (tgt := 106) hx hb dX11_step_76 (by decide) (fun c_76 => ?_) (fun c_76 => ?_)
    · obtain ⟨hv9, hg⟩ := fl_n p73 c_76
      refine lv_iconst (v := 0) hx hb dX11_step_106 (by decide) ?_
      refine W.widen (k := 2) (n := 804) (Nat.le_of_ble_eq_true rfl) (Nat.le_of_ble_eq_true rfl) ?_
      exact mq_zret (v := 0) hx hb hr (rfl) hlocks hM hS (⟨1, S2, Y, ad, spL_n (fun q => absurd (vI_iff.mpr q) (by rw [hv9]; decide)), (by have q9 := WR_yt hR1 hg; exact q9), hO.2, adK_id⟩) dX11_step_107
    · obtain ⟨hv9, rfl⟩ := fl_y h_3 p73 (by decide) c_76
      obtain ⟨j, hj, rfl⟩ := vI_ex1 hv9
      refine lv_aload_n hx hb dX11_step_79 rfl (lv_at hl 1 rfl) ?_
      refine lv_iload hx hb dX11_step_80 (lv_at hl 0 rfl) ?_
      refine lv_if_ne (tgt := 89) hx hb dX11_step_82 (by decide) (fun c_82 => ?_) (fun c_82 => ?_)
      · replace c_82 : ¬ zb b9 = 0 := c_82
        rw [zb_n0] at c_82
        refine lv_iconst (v := 0) hx hb dX11_step_89 (by decide) ?_
        refine lv_iconst (v := 2) hx hb dX11_step_90 (by decide) ?_
        refine mq_calli (va_runV (As := [.int 0, .int 2]) (rest := []) ⟨hx, hb, hml, hown, hts⟩ (c_X11_fails l G A f_1 (ad 20 0 0) false 2 0 (nI (aD S2)) (ad 21 0 0) (ad 23 0 0)) (cwV 2 hts gX11_step_X11_fails rfl rfl rfl (by decide +kernel) ⟨Nat.le_of_ble_eq_true rfl, Nat.le_of_ble_eq_true rfl⟩) (mq_preV hK hZ hS hA hM (q := (RX11, TX11, 4)) h_3 rfl (h_3) _) rfl rfl hl.1 rfl (lv_room (Nat.le_of_ble_eq_true rfl)) dX11_step_91 ⟨Nat.le_of_ble_eq_true rfl, Nat.le_of_ble_eq_true rfl⟩) hS (fun r91 g91 H locs p91 hM hS => ?_)
        refine W.widen (k := 0) (n := 0) (Nat.le_of_ble_eq_true rfl) (Nat.le_of_ble_eq_true rfl) ?_
        obtain ⟨hg, hr9⟩ := p91
        obtain rfl := fl_0 h_3 hg
        rw [hr9, show zb (decide (fT false 0 2 ≠ 0)) = 0 from by decide]
        refine lv_if_ne (tgt := 106) hx hb dX11_step_94 (by decide) (fun c_94 => absurd c_94 (by decide)) (fun c_94 => ?_)
        refine lv_aload_n hx hb dX11_step_97 rfl (lv_at hl 1 rfl) ?_
        refine lv_iload_n hx hb dX11_step_98 rfl (lv_at hl 2 rfl) ?_
        refine lv_iconst (v := 3) hx hb dX11_step_99 (by decide) ?_
        refine mq_calli (va_runV (As := [.int (nI j), .int 3]) (rest := []) ⟨hx, hb, hml, hown, hts⟩ (c_X11_noExercise l G A f_1 ad S X S2 (yThr Y 0) O T j 3) (cwV 2 hts gX11_step_X11_noExercise rfl rfl rfl (by decide +kernel) ⟨Nat.le_of_ble_eq_true rfl, Nat.le_of_ble_eq_true rfl⟩) (mq_preV hK hZ hS hA hM (q := (RX11, TX11, 4)) h_3 rfl (⟨hR1, hO.thr 0, hj, rfl⟩) _) rfl rfl hl.1 rfl (lv_room (Nat.le_of_ble_eq_true rfl)) dX11_step_100 ⟨Nat.le_of_ble_eq_true rfl, Nat.le_of_ble_eq_true rfl⟩) hS (fun r100 g100 H locs p100 hM hS => ?_)
        refine W.widen (k := 0) (n := 0) (Nat.le_of_ble_eq_true rfl) (Nat.le_of_ble_eq_true rfl) ?_
        refine lv_if_eq (tgt := 108) hx hb dX11_step_103 (by decide) (fun c_103 => ?_) (fun c_103 => ?_)
        · obtain ⟨e9, he9, rfl⟩ := nx_0 p100 (by decide) c_103
          obtain ⟨x1, x2, x3, x4, x5⟩ := (hle j hj).1 e9 he9
          have hcl : (yL Y).2 ≠ 0 := by omega
          have w27 := hR1.1 _ _ _ _ (t27 (j := j) hj)
          rw [he9] at w27
          have y27e : f_1 (ad 27 j 0) = some (.inr (14, [.ref (ad 28 j 0), .ref (ad 32 j 0), .ref (ad 35 j 0), .int (nI (e9.1)), .int (nI (e9.2.2.2.1)), .int (nI (e9.2.2.2.2)), va_rf (oMap (lWs (aE S2 j)) (ad 36 j 0)), va_rf (oMap (lWs (aE S2 j)) (ad 37 j 0))])) := w27
          have y123_280 := hR1.1 _ _ _ _ (t123 hcl)
          have y24_281 := hR1.1 _ _ _ _ (t24 hcl)
          have y35_282 := hR1.1 _ _ _ _ (t35 (j := j) hj he9)
          refine lv_aload_n hx hb dX11_step_108 rfl (lv_at hl 1 rfl) ?_
          refine mq_get (ci := 16) (v := .ref (ad 23 0 0)) (C := RX11) (T := TX11) (N := 4) hx hb hts nX11 hown hK hM h_3 rfl 3 (by decide) w1 (fun _ h9 => h9) rfl dX11_step_109 ?_
          refine lv_iload_n hx hb dX11_step_112 rfl (lv_at hl 2 rfl) ?_
          refine mq_callq (va_runV (As := [.int (nI j)]) (rest := []) ⟨hx, hb, hml, hown, hts⟩ (c_Jx4a65c_get_915e3 l G A f_1 (ad 23 0 0) (yL Y).1 (ad 24 0 0) (yL Y).2 (aL S2) j (fun i => ad 27 i 0)) (cwV 1 hts gX11_step_Jx4a65c_get_915e3 rfl rfl rfl (by decide +kernel) ⟨Nat.le_of_ble_eq_true rfl, Nat.le_of_ble_eq_true rfl⟩) (mq_preV hK hZ hS hA hM (q := (RJx4a65c, TJx4a65c, 3)) y123_280 rfl (⟨y123_280, y24_281, hj, hls, by omega⟩) _) rfl rfl hl.1 rfl (lv_room (Nat.le_of_ble_eq_true rfl)) dX11_step_113 ⟨Nat.le_of_ble_eq_true rfl, Nat.le_of_ble_eq_true rfl⟩) hS (fun r113 g113 H locs p113 hM hS => ?_)
          refine W.widen (k := 0) (n := 0) (Nat.le_of_ble_eq_true rfl) (Nat.le_of_ble_eq_true rfl) ?_
          obtain ⟨rfl, rfl⟩ := p113
          refine mq_castG hx hb hown w2 (mq_recv hK hM y27e rfl) dX11_step_116 ?_
          refine lv_astore (lv' := [(7, .ref (ad 27 j 0)), (6, .int (zb b9)), (0, .ref (ad 20 0 0)), (1, .int (nI j)), (2, .int va), (3, .int vb), (4, .int vc), (5, .int vd)]) hx hb dX11_step_119 hl (by decide) rfl (fun ls hl => ?_)
          refine lv_iconst (v := 4) hx hb dX11_step_121 (by decide) ?_
          refine mq_newI (N' := 4) hx hb w3 hK hM hS hA (by decide) (rfl) (Nat.le_of_ble_eq_true rfl) (Nat.le_of_ble_eq_true rfl) (Nat.le_of_ble_eq_true rfl) dX11_step_122 (fun q122 f_4 H hq122 e_5 hM hS => ?_)
          refine W.widen (k := 1) (n := 4) (Nat.le_of_ble_eq_true rfl) (Nat.le_of_ble_eq_true rfl) ?_
          have h_6 : f_4 (ad 20 0 0) = some (.inr (16, [.int 0, .int (nI (aD S2)), .ref (ad 21 0 0), .ref (ad 23 0 0)])) := mq_n e_5 h_3 (mq_neN h_3 hq122)
          have h_7 : f_4 (ad 23 0 0) = some (.inr (4, [.int ((yL Y).1), .ref (ad 24 0 0), .int (nI (aL S2))])) := mq_n e_5 y123_280 (mq_neN y123_280 hq122)
          have h_8 : f_4 (ad 24 0 0) = some (.inl (G.2 8, (yL Y).2, .inr (.inr (.inr (.inr (rf_of (aL S2) (fun i => ad 27 i 0))))))) := mq_n e_5 y24_281 (mq_neN y24_281 hq122)
          have h_9 : f_4 (ad 35 j 0) = some (.inl (G.2 0, 4, .inl (eqF e9.2.2.1))) := mq_n e_5 y35_282 (mq_neN y35_282 hq122)
          have h_10 : f_4 (ad 27 j 0) = some (.inr (14, [.ref (ad 28 j 0), .ref (ad 32 j 0), .ref (ad 35 j 0), .int (nI (e9.1)), .int (nI (e9.2.2.2.1)), .int (nI (e9.2.2.2.2)), va_rf (oMap (lWs (aE S2 j)) (ad 36 j 0)), va_rf (oMap (lWs (aE S2 j)) (ad 37 j 0))])) := mq_n e_5 y27e (mq_neN y27e hq122)
          have h_11 : f_4 q122 = some (.inl (G.2 0, 4, .inl (fun _ => 0))) := mq_s e_5
          refine lv_dup hx hb dX11_step_124 rfl ?_
          refine lv_iconst (v := 0) hx hb dX11_step_125 (by decide) ?_
          refine lv_iload_n hx hb dX11_step_126 rfl (lv_at hl 4 rfl) ?_
          refine mq_iast hx hb hK hM hS h_11 (vp_in_nI (n := 0) (by decide) (by decide)) dX11_step_127 (fun f_12 H locs e_13 hM hS => ?_)
          rw [show (0 : Int32).toNatClampNeg = 0 from rfl] at e_13
          have h_14 : f_12 (ad 20 0 0) = some (.inr (16, [.int 0, .int (nI (aD S2)), .ref (ad 21 0 0), .ref (ad 23 0 0)])) := mq_n e_13 h_6 (mq_neN h_3 hq122)
          have h_15 : f_12 (ad 23 0 0) = some (.inr (4, [.int ((yL Y).1), .ref (ad 24 0 0), .int (nI (aL S2))])) := mq_n e_13 h_7 (mq_neN y123_280 hq122)
          have h_16 : f_12 (ad 24 0 0) = some (.inl (G.2 8, (yL Y).2, .inr (.inr (.inr (.inr (rf_of (aL S2) (fun i => ad 27 i 0))))))) := mq_n e_13 h_8 (mq_neN y24_281 hq122)
          have h_17 : f_12 (ad 35 j 0) = some (.inl (G.2 0, 4, .inl (eqF e9.2.2.1))) := mq_n e_13 h_9 (mq_neN y35_282 hq122)
          have h_18 : f_12 (ad 27 j 0) = some (.inr (14, [.ref (ad 28 j 0), .ref (ad 32 j 0), .ref (ad 35 j 0), .int (nI (e9.1)), .int (nI (e9.2.2.2.1)), .int (nI (e9.2.2.2.2)), va_rf (oMap (lWs (aE S2 j)) (ad 36 j 0)), va_rf (oMap (lWs (aE S2 j)) (ad 37 j 0))])) := mq_n e_13 h_10 (mq_neN y27e hq122)
          have h_19 : f_12 q122 = some (.inl (G.2 0, 4, .inl (upd (fun _ => 0) 0 va))) := mq_s e_13
          refine lv_dup hx hb dX11_step_128 rfl ?_
          refine lv_iconst (v := 1) hx hb dX11_step_129 (by decide) ?_
          refine lv_iload_n hx hb dX11_step_130 rfl (lv_at hl 5 rfl) ?_
          refine mq_iast hx hb hK hM hS h_19 (vp_in_nI (n := 1) (by decide) (by decide)) dX11_step_131 (fun f_20 H locs e_21 hM hS => ?_)
          rw [show (1 : Int32).toNatClampNeg = 1 from rfl] at e_21
          have h_22 : f_20 (ad 20 0 0) = some (.inr (16, [.int 0, .int (nI (aD S2)), .ref (ad 21 0 0), .ref (ad 23 0 0)])) := mq_n e_21 h_14 (mq_neN h_3 hq122)
          have h_23 : f_20 (ad 23 0 0) = some (.inr (4, [.int ((yL Y).1), .ref (ad 24 0 0), .int (nI (aL S2))])) := mq_n e_21 h_15 (mq_neN y123_280 hq122)
          have h_24 : f_20 (ad 24 0 0) = some (.inl (G.2 8, (yL Y).2, .inr (.inr (.inr (.inr (rf_of (aL S2) (fun i => ad 27 i 0))))))) := mq_n e_21 h_16 (mq_neN y24_281 hq122)
          have h_25 : f_20 (ad 35 j 0) = some (.inl (G.2 0, 4, .inl (eqF e9.2.2.1))) := mq_n e_21 h_17 (mq_neN y35_282 hq122)
          have h_26 : f_20 (ad 27 j 0) = some (.inr (14, [.ref (ad 28 j 0), .ref (ad 32 j 0), .ref (ad 35 j 0), .int (nI (e9.1)), .int (nI (e9.2.2.2.1)), .int (nI (e9.2.2.2.2)), va_rf (oMap (lWs (aE S2 j)) (ad 36 j 0)), va_rf (oMap (lWs (aE S2 j)) (ad 37 j 0))])) := mq_n e_21 h_18 (mq_neN y27e hq122)
          have h_27 : f_20 q122 = some (.inl (G.2 0, 4, .inl (upd (upd (fun _ => 0) 0 va) 1 vb))) := mq_s e_21
          refine lv_dup hx hb dX11_step_132 rfl ?_
          refine lv_iconst (v := 2) hx hb dX11_step_133 (by decide) ?_
          refine lv_iload hx hb dX11_step_134 (lv_at hl 6 rfl) ?_
          refine mq_iast hx hb hK hM hS h_27 (vp_in_nI (n := 2) (by decide) (by decide)) dX11_step_136 (fun f_28 H locs e_29 hM hS => ?_)
          rw [show (2 : Int32).toNatClampNeg = 2 from rfl] at e_29
          have h_30 : f_28 (ad 20 0 0) = some (.inr (16, [.int 0, .int (nI (aD S2)), .ref (ad 21 0 0), .ref (ad 23 0 0)])) := mq_n e_29 h_22 (mq_neN h_3 hq122)
          have h_31 : f_28 (ad 23 0 0) = some (.inr (4, [.int ((yL Y).1), .ref (ad 24 0 0), .int (nI (aL S2))])) := mq_n e_29 h_23 (mq_neN y123_280 hq122)
          have h_32 : f_28 (ad 24 0 0) = some (.inl (G.2 8, (yL Y).2, .inr (.inr (.inr (.inr (rf_of (aL S2) (fun i => ad 27 i 0))))))) := mq_n e_29 h_24 (mq_neN y24_281 hq122)
          have h_33 : f_28 (ad 35 j 0) = some (.inl (G.2 0, 4, .inl (eqF e9.2.2.1))) := mq_n e_29 h_25 (mq_neN y35_282 hq122)
          have h_34 : f_28 (ad 27 j 0) = some (.inr (14, [.ref (ad 28 j 0), .ref (ad 32 j 0), .ref (ad 35 j 0), .int (nI (e9.1)), .int (nI (e9.2.2.2.1)), .int (nI (e9.2.2.2.2)), va_rf (oMap (lWs (aE S2 j)) (ad 36 j 0)), va_rf (oMap (lWs (aE S2 j)) (ad 37 j 0))])) := mq_n e_29 h_26 (mq_neN y27e hq122)
          have h_35 : f_28 q122 = some (.inl (G.2 0, 4, .inl (upd (upd (upd (fun _ => 0) 0 va) 1 vb) 2 vc))) := mq_s e_29
          refine lv_dup hx hb dX11_step_137 rfl ?_
          refine lv_iconst (v := 3) hx hb dX11_step_138 (by decide) ?_
          refine lv_iload hx hb dX11_step_139 (lv_at hl 7 rfl) ?_
          refine mq_iast hx hb hK hM hS h_35 (vp_in_nI (n := 3) (by decide) (by decide)) dX11_step_141 (fun f_36 H locs e_37 hM hS => ?_)
          rw [show (3 : Int32).toNatClampNeg = 3 from rfl] at e_37
          rw [show (upd (upd (upd (upd (fun _ => 0) 0 va) 1 vb) 2 vc) 3 vd) = (eqF (va, vb, vc, vd)) from rfl] at e_37
          have h_38 : f_36 (ad 20 0 0) = some (.inr (16, [.int 0, .int (nI (aD S2)), .ref (ad 21 0 0), .ref (ad 23 0 0)])) := mq_n e_37 h_30 (mq_neN h_3 hq122)
          have h_39 : f_36 (ad 23 0 0) = some (.inr (4, [.int ((yL Y).1), .ref (ad 24 0 0), .int (nI (aL S2))])) := mq_n e_37 h_31 (mq_neN y123_280 hq122)
          have h_40 : f_36 (ad 24 0 0) = some (.inl (G.2 8, (yL Y).2, .inr (.inr (.inr (.inr (rf_of (aL S2) (fun i => ad 27 i 0))))))) := mq_n e_37 h_32 (mq_neN y24_281 hq122)
          have h_41 : f_36 (ad 35 j 0) = some (.inl (G.2 0, 4, .inl (eqF e9.2.2.1))) := mq_n e_37 h_33 (mq_neN y35_282 hq122)
          have h_42 : f_36 (ad 27 j 0) = some (.inr (14, [.ref (ad 28 j 0), .ref (ad 32 j 0), .ref (ad 35 j 0), .int (nI (e9.1)), .int (nI (e9.2.2.2.1)), .int (nI (e9.2.2.2.2)), va_rf (oMap (lWs (aE S2 j)) (ad 36 j 0)), va_rf (oMap (lWs (aE S2 j)) (ad 37 j 0))])) := mq_n e_37 h_34 (mq_neN y27e hq122)
          have h_43 : f_36 q122 = some (.inl (G.2 0, 4, .inl (eqF (va, vb, vc, vd)))) := mq_s e_37
          refine lv_astore (lv' := [(8, .ref q122), (7, .ref (ad 27 j 0)), (6, .int (zb b9)), (0, .ref (ad 20 0 0)), (1, .int (nI j)), (2, .int va), (3, .int vb), (4, .int vc), (5, .int vd)]) hx hb dX11_step_142 hl (by decide) rfl (fun ls hl => ?_)
          refine lv_aload hx hb dX11_step_144 (lv_at hl 1 rfl) ?_
          refine mq_get (ci := 14) (v := .ref (ad 35 j 0)) (C := RX9) (T := TX9) (N := 8) hx hb hts nX9 hown hK hM h_42 rfl 2 (by decide) w4 (fun _ h9 => h9) rfl dX11_step_146 ?_
          refine lv_aload hx hb dX11_step_149 (lv_at hl 0 rfl) ?_
          refine mq_calli (va_runS (As := [.ref (ad 35 j 0), .ref q122]) (rest := []) ⟨hx, hb, hml, hown, hts⟩ (c_X11_follows l G A f_36 (ad 35 j 0) q122 e9.2.2.1 (va, vb, vc, vd)) (va_cwS 2 hts gX11_step_X11_follows rfl rfl rfl (by decide +kernel) ⟨Nat.le_of_ble_eq_true rfl, Nat.le_of_ble_eq_true rfl⟩) (mq_preS hK hZ hS hA hM (⟨h_41, h_43⟩) _) rfl rfl hl.1 rfl (lv_room (Nat.le_of_ble_eq_true rfl)) dX11_step_151 ⟨Nat.le_of_ble_eq_true rfl, Nat.le_of_ble_eq_true rfl⟩) hS (fun r151 g151 H locs p151 hM hS => ?_)
          refine W.widen (k := 1) (n := 4) (Nat.le_of_ble_eq_true rfl) (Nat.le_of_ble_eq_true rfl) ?_
          obtain ⟨rfl, rfl⟩ := p151
          refine lv_if_ne (tgt := 188) hx hb dX11_step_154 (by decide) (fun c_154 => ?_) (fun c_154 => ?_)
          · replace c_154 : ¬ zb (eq_same e9.2.2.1 (va, vb, vc, vd)) = 0 := c_154
            rw [zb_n0] at c_154
            have hsm : eq_same (va, vb, vc, vd) e9.2.2.1 = true := by rw [eq_same_sym]; exact c_154
            refine lv_aload hx hb dX11_step_188 (lv_at hl 1 rfl) ?_
            refine lv_aload hx hb dX11_step_190 (lv_at hl 0 rfl) ?_
            refine mq_put (ci := 14) (v := .ref q122) (ty := .array (.int)) (C := RX9) (T := TX9) (N := 8) (fs' := [.ref (ad 28 j 0), .ref (ad 32 j 0), .ref q122, .int (nI (e9.1)), .int (nI (e9.2.2.2.1)), .int (nI (e9.2.2.2.2)), va_rf (oMap (lWs (aE S2 j)) (ad 36 j 0)), va_rf (oMap (lWs (aE S2 j)) (ad 37 j 0))]) hx hb hts nX9 tyX9 tyX9_ok nmX9 hown hK hM hS h_42 rfl 2 (by decide) w4 (fun _ h9 => h9) rfl (by decide +kernel) rfl rfl (Nat.le_of_ble_eq_true rfl) dX11_step_192 rfl (fun f_44 H locs e_45 hM hS => ?_)
            have h_46 : f_44 (ad 20 0 0) = some (.inr (16, [.int 0, .int (nI (aD S2)), .ref (ad 21 0 0), .ref (ad 23 0 0)])) := mq_n e_45 h_38 (mq_neO h_38 h_42 (by decide))
            have h_47 : f_44 (ad 23 0 0) = some (.inr (4, [.int ((yL Y).1), .ref (ad 24 0 0), .int (nI (aL S2))])) := mq_n e_45 h_39 (mq_neO h_39 h_42 (by decide))
            have h_48 : f_44 (ad 24 0 0) = some (.inl (G.2 8, (yL Y).2, .inr (.inr (.inr (.inr (rf_of (aL S2) (fun i => ad 27 i 0))))))) := mq_n e_45 h_40 (mq_neB h_40 h_42)
            have h_49 : f_44 (ad 35 j 0) = some (.inl (G.2 0, 4, .inl (eqF e9.2.2.1))) := mq_n e_45 h_41 (mq_neB h_41 h_42)
            have h_50 : f_44 q122 = some (.inl (G.2 0, 4, .inl (eqF (va, vb, vc, vd)))) := mq_n e_45 h_43 (Ne.symm (mq_neN y27e hq122))
            have h_51 : f_44 (ad 27 j 0) = some (.inr (14, [.ref (ad 28 j 0), .ref (ad 32 j 0), .ref q122, .int (nI (e9.1)), .int (nI (e9.2.2.2.1)), .int (nI (e9.2.2.2.2)), va_rf (oMap (lWs (aE S2 j)) (ad 36 j 0)), va_rf (oMap (lWs (aE S2 j)) (ad 37 j 0))])) := mq_s e_45
            refine lv_iload_n hx hb dX11_step_195 rfl (lv_at hl 5 rfl) ?_
            refine lv_iconst (v := 1) hx hb dX11_step_196 (by decide) ?_
            refine lv_icmp_ne (tgt := 209) hx hb dX11_step_197 (by decide) (fun c_197 => ?_) (fun c_197 => ?_)
            · refine lv_bipush (v := 102) hx hb dX11_step_209 (by decide) ?_
              refine W.widen (k := 2) (n := 804) (Nat.le_of_ble_eq_true rfl) (Nat.le_of_ble_eq_true rfl) ?_
              exact mq_zret (v := 102) hx hb hr (rfl) hlocks hM hS (⟨0, _, Y, _, (spL_y hj hl4).trans ((if_pos (by rw [← hb9, c_82])).trans (by rw [he9]; exact (if_pos hsm).trans (if_neg (fun q => c_197 q.1)))), WR_rtR hR1 (va, vb, vc, vd) q122 hj he9 hq122 (f1 := f_36) (by rw [e_37, e_29, e_21, e_13, e_5] <;> (try simp only [mq_uu]) <;> rfl) (by rw [e_45] <;> (try simp only [mq_uu]) <;> rfl), mCp_le hO.2 rfl, ⟨rfl, rfl, rfl, rfl⟩⟩) dX11_step_211
            · refine lv_iload_n hx hb dX11_step_200 rfl (lv_at hl 6 rfl) ?_
              refine lv_if_ne (tgt := 209) hx hb dX11_step_201 (by decide) (fun c_201 => ?_) (fun c_201 => ?_)
              · refine lv_bipush (v := 102) hx hb dX11_step_209 (by decide) ?_
                refine W.widen (k := 2) (n := 804) (Nat.le_of_ble_eq_true rfl) (Nat.le_of_ble_eq_true rfl) ?_
                exact mq_zret (v := 102) hx hb hr (rfl) hlocks hM hS (⟨0, _, Y, _, (spL_y hj hl4).trans ((if_pos (by rw [← hb9, c_82])).trans (by rw [he9]; exact (if_pos hsm).trans (if_neg (fun q => c_201 q.2.1)))), WR_rtR hR1 (va, vb, vc, vd) q122 hj he9 hq122 (f1 := f_36) (by rw [e_37, e_29, e_21, e_13, e_5] <;> (try simp only [mq_uu]) <;> rfl) (by rw [e_45] <;> (try simp only [mq_uu]) <;> rfl), mCp_le hO.2 rfl, ⟨rfl, rfl, rfl, rfl⟩⟩) dX11_step_211
              · refine lv_iload hx hb dX11_step_204 (lv_at hl 7 rfl) ?_
                refine lv_if_eq (tgt := 212) hx hb dX11_step_206 (by decide) (fun c_206 => ?_) (fun c_206 => ?_)
                · refine lv_aload hx hb dX11_step_212 (lv_at hl 1 rfl) ?_
                  refine lv_null hx hb dX11_step_214 ?_
                  refine mq_put (ci := 14) (v := .null) (ty := .array (.int)) (C := RX9) (T := TX9) (N := 8) (fs' := [.ref (ad 28 j 0), .ref (ad 32 j 0), .null, .int (nI (e9.1)), .int (nI (e9.2.2.2.1)), .int (nI (e9.2.2.2.2)), va_rf (oMap (lWs (aE S2 j)) (ad 36 j 0)), va_rf (oMap (lWs (aE S2 j)) (ad 37 j 0))]) hx hb hts nX9 tyX9 tyX9_ok nmX9 hown hK hM hS h_51 rfl 2 (by decide) w4 (fun _ h9 => h9) rfl (by decide +kernel) rfl rfl (Nat.le_of_ble_eq_true rfl) dX11_step_215 rfl (fun f_52 H locs e_53 hM hS => ?_)
                  have h_54 : f_52 (ad 20 0 0) = some (.inr (16, [.int 0, .int (nI (aD S2)), .ref (ad 21 0 0), .ref (ad 23 0 0)])) := mq_n e_53 h_46 (mq_neO h_46 h_51 (by decide))
                  have h_55 : f_52 (ad 23 0 0) = some (.inr (4, [.int ((yL Y).1), .ref (ad 24 0 0), .int (nI (aL S2))])) := mq_n e_53 h_47 (mq_neO h_47 h_51 (by decide))
                  have h_56 : f_52 (ad 24 0 0) = some (.inl (G.2 8, (yL Y).2, .inr (.inr (.inr (.inr (rf_of (aL S2) (fun i => ad 27 i 0))))))) := mq_n e_53 h_48 (mq_neB h_48 h_51)
                  have h_57 : f_52 (ad 35 j 0) = some (.inl (G.2 0, 4, .inl (eqF e9.2.2.1))) := mq_n e_53 h_49 (mq_neB h_49 h_51)
                  have h_58 : f_52 q122 = some (.inl (G.2 0, 4, .inl (eqF (va, vb, vc, vd)))) := mq_n e_53 h_50 (Ne.symm (mq_neN y27e hq122))
                  have h_59 : f_52 (ad 27 j 0) = some (.inr (14, [.ref (ad 28 j 0), .ref (ad 32 j 0), .null, .int (nI (e9.1)), .int (nI (e9.2.2.2.1)), .int (nI (e9.2.2.2.2)), va_rf (oMap (lWs (aE S2 j)) (ad 36 j 0)), va_rf (oMap (lWs (aE S2 j)) (ad 37 j 0))])) := mq_s e_53
                  refine lv_aload_n hx hb dX11_step_218 rfl (lv_at hl 3 rfl) ?_
                  refine lv_iload_n hx hb dX11_step_219 rfl (lv_at hl 4 rfl) ?_
                  refine lv_aload hx hb dX11_step_220 (lv_at hl 1 rfl) ?_
                  refine mq_get (ci := 14) (v := .int (nI (e9.1))) (C := RX9) (T := TX9) (N := 8) hx hb hts nX9 hown hK hM h_59 rfl 3 (by decide) w5 (fun _ h9 => h9) rfl dX11_step_222 ?_
                  refine lv_aload hx hb dX11_step_225 (lv_at hl 1 rfl) ?_
                  refine mq_get (ci := 14) (v := .int (nI (e9.2.2.2.1))) (C := RX9) (T := TX9) (N := 8) hx hb hts nX9 hown hK hM h_59 rfl 4 (by decide) w6 (fun _ h9 => h9) rfl dX11_step_227 ?_
                  refine lv_if_ne (tgt := 245) hx hb dX11_step_230 (by decide) (fun c_230 => ?_) (fun c_230 => ?_)
                  · replace c_230 : ¬ nI e9.2.2.2.1 = nI 0 := c_230
                    rw [nI_eq (by omega) (by omega)] at c_230
                    refine lv_iconst (v := 0) hx hb dX11_step_245 (by decide) ?_
                    have hz9 : decide (e9.2.2.2.1 = 0 ∧ e9.2.2.2.2 = 0) = false := decide_eq_false (fun q => c_230 q.1)
                    have hR5 := WR_noR (g := f_52) (RR.mono hR1 (g := f_36) (fun y e he => by rw [show f_36 = mq_up f_1 q122 (cIn G 4 (eqF (va, vb, vc, vd))) from (by rw [e_37, e_29, e_21, e_13, e_5] <;> (try simp only [mq_uu]) <;> rfl), mq_up_n (mq_neN he hq122)]; exact he)) hj he9 (by rw [e_53, e_45] <;> (try simp only [mq_uu]) <;> rfl)
                    refine mq_callv (va_runV (As := [.int (nI j), .int (nI (e9.1)), .int 0]) (rest := []) ⟨hx, hb, hml, hown, hts⟩ (c_X11_note l G A f_52 ad S X (s1Of S2 j) (yThr (yOn Y j (e9.1, e9.2.2.2.1, e9.2.2.2.2)) 0) O T j e9.1 false) (cwV 3 hts gX11_step_X11_note rfl rfl rfl (by decide +kernel) ⟨Nat.le_of_ble_eq_true rfl, Nat.le_of_ble_eq_true rfl⟩) (mq_preV hK hZ hS hA hM (q := (RX11, TX11, 4)) h_54 rfl (⟨hR5, ⟨⟨_, ok_le0 hX8 hj⟩, mCp_le hO.2 rfl⟩, hj, x1, hT5⟩) _) rfl rfl hl.1 rfl (lv_room (Nat.le_of_ble_eq_true rfl)) dX11_step_246 ⟨Nat.le_of_ble_eq_true rfl, Nat.le_of_ble_eq_true rfl⟩) hS (fun g246 H locs p246 hM hS => ?_)
                    refine W.widen (k := 2) (n := 804) (Nat.le_of_ble_eq_true rfl) (Nat.le_of_ble_eq_true rfl) ?_
                    obtain ⟨q9, cap9, hlc9, hR6⟩ := p246
                    rw [← hz9] at hR6
                    refine lv_bipush (v := 115) hx hb dX11_step_249 (by decide) ?_
                    exact mq_zret (v := 115) hx hb hr (rfl) hlocks hM hS (⟨0, _, (yAn (yOn Y j (e9.1, e9.2.2.2.1, e9.2.2.2.2)) j e9.1 ((yA Y j e9.1).1 + 1, cap9)), _, (spL_y hj hl4).trans ((if_pos (by rw [← hb9, c_82])).trans (by rw [he9]; exact (if_pos hsm).trans (if_pos ⟨c_197, c_201, c_206⟩))), hR6, mCp_an (mCp_le hO.2 rfl) (by rw [List.length_append]; exact hlc9), ⟨rfl, rfl, rfl, rfl⟩⟩) dX11_step_251
                  · replace c_230 : nI e9.2.2.2.1 = nI 0 := c_230
                    rw [nI_eq (by omega) (by omega)] at c_230
                    refine lv_aload hx hb dX11_step_233 (lv_at hl 1 rfl) ?_
                    refine mq_get (ci := 14) (v := .int (nI (e9.2.2.2.2))) (C := RX9) (T := TX9) (N := 8) hx hb hts nX9 hown hK hM h_59 rfl 5 (by decide) w7 (fun _ h9 => h9) rfl dX11_step_235 ?_
                    refine lv_if_ne (tgt := 245) hx hb dX11_step_238 (by decide) (fun c_238 => ?_) (fun c_238 => ?_)
                    · replace c_238 : ¬ nI e9.2.2.2.2 = nI 0 := c_238
                      rw [nI_eq (by omega) (by omega)] at c_238
                      refine lv_iconst (v := 0) hx hb dX11_step_245 (by decide) ?_
                      have hz9 : decide (e9.2.2.2.1 = 0 ∧ e9.2.2.2.2 = 0) = false := decide_eq_false (fun q => c_238 q.2)
                      have hR5 := WR_noR (g := f_52) (RR.mono hR1 (g := f_36) (fun y e he => by rw [show f_36 = mq_up f_1 q122 (cIn G 4 (eqF (va, vb, vc, vd))) from (by rw [e_37, e_29, e_21, e_13, e_5] <;> (try simp only [mq_uu]) <;> rfl), mq_up_n (mq_neN he hq122)]; exact he)) hj he9 (by rw [e_53, e_45] <;> (try simp only [mq_uu]) <;> rfl)
                      refine mq_callv (va_runV (As := [.int (nI j), .int (nI (e9.1)), .int 0]) (rest := []) ⟨hx, hb, hml, hown, hts⟩ (c_X11_note l G A f_52 ad S X (s1Of S2 j) (yThr (yOn Y j (e9.1, e9.2.2.2.1, e9.2.2.2.2)) 0) O T j e9.1 false) (cwV 3 hts gX11_step_X11_note rfl rfl rfl (by decide +kernel) ⟨Nat.le_of_ble_eq_true rfl, Nat.le_of_ble_eq_true rfl⟩) (mq_preV hK hZ hS hA hM (q := (RX11, TX11, 4)) h_54 rfl (⟨hR5, ⟨⟨_, ok_le0 hX8 hj⟩, mCp_le hO.2 rfl⟩, hj, x1, hT5⟩) _) rfl rfl hl.1 rfl (lv_room (Nat.le_of_ble_eq_true rfl)) dX11_step_246 ⟨Nat.le_of_ble_eq_true rfl, Nat.le_of_ble_eq_true rfl⟩) hS (fun g246 H locs p246 hM hS => ?_)
                      refine W.widen (k := 2) (n := 804) (Nat.le_of_ble_eq_true rfl) (Nat.le_of_ble_eq_true rfl) ?_
                      obtain ⟨q9, cap9, hlc9, hR6⟩ := p246
                      rw [← hz9] at hR6
                      refine lv_bipush (v := 115) hx hb dX11_step_249 (by decide) ?_
                      exact mq_zret (v := 115) hx hb hr (rfl) hlocks hM hS (⟨0, _, (yAn (yOn Y j (e9.1, e9.2.2.2.1, e9.2.2.2.2)) j e9.1 ((yA Y j e9.1).1 + 1, cap9)), _, (spL_y hj hl4).trans ((if_pos (by rw [← hb9, c_82])).trans (by rw [he9]; exact (if_pos hsm).trans (if_pos ⟨c_197, c_201, c_206⟩))), hR6, mCp_an (mCp_le hO.2 rfl) (by rw [List.length_append]; exact hlc9), ⟨rfl, rfl, rfl, rfl⟩⟩) dX11_step_251
                    · replace c_238 : nI e9.2.2.2.2 = nI 0 := c_238
                      rw [nI_eq (by omega) (by omega)] at c_238
                      refine lv_iconst (v := 1) hx hb dX11_step_241 (by decide) ?_
                      refine lv_goto (tgt := 246) hx hb dX11_step_242 (by decide) ?_
                      have hz9 : decide (e9.2.2.2.1 = 0 ∧ e9.2.2.2.2 = 0) = true := decide_eq_true ⟨c_230, c_238⟩
                      have hR5 := WR_noR (g := f_52) (RR.mono hR1 (g := f_36) (fun y e he => by rw [show f_36 = mq_up f_1 q122 (cIn G 4 (eqF (va, vb, vc, vd))) from (by rw [e_37, e_29, e_21, e_13, e_5] <;> (try simp only [mq_uu]) <;> rfl), mq_up_n (mq_neN he hq122)]; exact he)) hj he9 (by rw [e_53, e_45] <;> (try simp only [mq_uu]) <;> rfl)
                      refine mq_callv (va_runV (As := [.int (nI j), .int (nI (e9.1)), .int 1]) (rest := []) ⟨hx, hb, hml, hown, hts⟩ (c_X11_note l G A f_52 ad S X (s1Of S2 j) (yThr (yOn Y j (e9.1, e9.2.2.2.1, e9.2.2.2.2)) 0) O T j e9.1 true) (cwV 3 hts gX11_step_X11_note rfl rfl rfl (by decide +kernel) ⟨Nat.le_of_ble_eq_true rfl, Nat.le_of_ble_eq_true rfl⟩) (mq_preV hK hZ hS hA hM (q := (RX11, TX11, 4)) h_54 rfl (⟨hR5, ⟨⟨_, ok_le0 hX8 hj⟩, mCp_le hO.2 rfl⟩, hj, x1, hT5⟩) _) rfl rfl hl.1 rfl (lv_room (Nat.le_of_ble_eq_true rfl)) dX11_step_246 ⟨Nat.le_of_ble_eq_true rfl, Nat.le_of_ble_eq_true rfl⟩) hS (fun g246 H locs p246 hM hS => ?_)
                      refine W.widen (k := 2) (n := 804) (Nat.le_of_ble_eq_true rfl) (Nat.le_of_ble_eq_true rfl) ?_
                      obtain ⟨q9, cap9, hlc9, hR6⟩ := p246
                      rw [← hz9] at hR6
                      refine lv_bipush (v := 115) hx hb dX11_step_249 (by decide) ?_
                      exact mq_zret (v := 115) hx hb hr (rfl) hlocks hM hS (⟨0, _, (yAn (yOn Y j (e9.1, e9.2.2.2.1, e9.2.2.2.2)) j e9.1 ((yA Y j e9.1).1 + 1, cap9)), _, (spL_y hj hl4).trans ((if_pos (by rw [← hb9, c_82])).trans (by rw [he9]; exact (if_pos hsm).trans (if_pos ⟨c_197, c_201, c_206⟩))), hR6, mCp_an (mCp_le hO.2 rfl) (by rw [List.length_append]; exact hlc9), ⟨rfl, rfl, rfl, rfl⟩⟩) dX11_step_251
                · refine lv_bipush (v := 102) hx hb dX11_step_209 (by decide) ?_
                  refine W.widen (k := 2) (n := 804) (Nat.le_of_ble_eq_true rfl) (Nat.le_of_ble_eq_true rfl) ?_
                  exact mq_zret (v := 102) hx hb hr (rfl) hlocks hM hS (⟨0, _, Y, _, (spL_y hj hl4).trans ((if_pos (by rw [← hb9, c_82])).trans (by rw [he9]; exact (if_pos hsm).trans (if_neg (fun q => c_206 q.2.2)))), WR_rtR hR1 (va, vb, vc, vd) q122 hj he9 hq122 (f1 := f_36) (by rw [e_37, e_29, e_21, e_13, e_5] <;> (try simp only [mq_uu]) <;> rfl) (by rw [e_45] <;> (try simp only [mq_uu]) <;> rfl), mCp_le hO.2 rfl, ⟨rfl, rfl, rfl, rfl⟩⟩) dX11_step_211
          · replace c_154 : zb (eq_same e9.2.2.1 (va, vb, vc, vd)) = 0 := c_154
            rw [zb_0] at c_154
            have hsm : eq_same (va, vb, vc, vd) e9.2.2.1 = false := by rw [eq_same_sym]; exact c_154
            refine lv_aload hx hb dX11_step_157 (lv_at hl 1 rfl) ?_
            refine lv_aload hx hb dX11_step_159 (lv_at hl 1 rfl) ?_
            refine mq_get (ci := 14) (v := .ref (ad 35 j 0)) (C := RX9) (T := TX9) (N := 8) hx hb hts nX9 hown hK hM h_42 rfl 2 (by decide) w4 (fun _ h9 => h9) rfl dX11_step_161 ?_
            refine mq_put (ci := 14) (v := .ref (ad 35 j 0)) (ty := .array (.int)) (C := RX9) (T := TX9) (N := 8) (fs' := [.ref (ad 28 j 0), .ref (ad 32 j 0), .ref (ad 35 j 0), .int (nI (e9.1)), .int (nI (e9.2.2.2.1)), .int (nI (e9.2.2.2.2)), .ref (ad 35 j 0), va_rf (oMap (lWs (aE S2 j)) (ad 37 j 0))]) hx hb hts nX9 tyX9 tyX9_ok nmX9 hown hK hM hS h_42 rfl 6 (by decide) w8 (fun _ h9 => h9) rfl (by decide +kernel) rfl rfl (Nat.le_of_ble_eq_true rfl) dX11_step_164 rfl (fun f_60 H locs e_61 hM hS => ?_)
            have h_62 : f_60 (ad 20 0 0) = some (.inr (16, [.int 0, .int (nI (aD S2)), .ref (ad 21 0 0), .ref (ad 23 0 0)])) := mq_n e_61 h_38 (mq_neO h_38 h_42 (by decide))
            have h_63 : f_60 (ad 23 0 0) = some (.inr (4, [.int ((yL Y).1), .ref (ad 24 0 0), .int (nI (aL S2))])) := mq_n e_61 h_39 (mq_neO h_39 h_42 (by decide))
            have h_64 : f_60 (ad 24 0 0) = some (.inl (G.2 8, (yL Y).2, .inr (.inr (.inr (.inr (rf_of (aL S2) (fun i => ad 27 i 0))))))) := mq_n e_61 h_40 (mq_neB h_40 h_42)
            have h_65 : f_60 (ad 35 j 0) = some (.inl (G.2 0, 4, .inl (eqF e9.2.2.1))) := mq_n e_61 h_41 (mq_neB h_41 h_42)
            have h_66 : f_60 q122 = some (.inl (G.2 0, 4, .inl (eqF (va, vb, vc, vd)))) := mq_n e_61 h_43 (Ne.symm (mq_neN y27e hq122))
            have h_67 : f_60 (ad 27 j 0) = some (.inr (14, [.ref (ad 28 j 0), .ref (ad 32 j 0), .ref (ad 35 j 0), .int (nI (e9.1)), .int (nI (e9.2.2.2.1)), .int (nI (e9.2.2.2.2)), .ref (ad 35 j 0), va_rf (oMap (lWs (aE S2 j)) (ad 37 j 0))])) := mq_s e_61
            refine lv_aload hx hb dX11_step_167 (lv_at hl 1 rfl) ?_
            refine lv_aload hx hb dX11_step_169 (lv_at hl 0 rfl) ?_
            refine mq_put (ci := 14) (v := .ref q122) (ty := .array (.int)) (C := RX9) (T := TX9) (N := 8) (fs' := [.ref (ad 28 j 0), .ref (ad 32 j 0), .ref (ad 35 j 0), .int (nI (e9.1)), .int (nI (e9.2.2.2.1)), .int (nI (e9.2.2.2.2)), .ref (ad 35 j 0), .ref q122]) hx hb hts nX9 tyX9 tyX9_ok nmX9 hown hK hM hS h_67 rfl 7 (by decide) w9 (fun _ h9 => h9) rfl (by decide +kernel) rfl rfl (Nat.le_of_ble_eq_true rfl) dX11_step_171 rfl (fun f_68 H locs e_69 hM hS => ?_)
            have h_70 : f_68 (ad 20 0 0) = some (.inr (16, [.int 0, .int (nI (aD S2)), .ref (ad 21 0 0), .ref (ad 23 0 0)])) := mq_n e_69 h_62 (mq_neO h_62 h_67 (by decide))
            have h_71 : f_68 (ad 23 0 0) = some (.inr (4, [.int ((yL Y).1), .ref (ad 24 0 0), .int (nI (aL S2))])) := mq_n e_69 h_63 (mq_neO h_63 h_67 (by decide))
            have h_72 : f_68 (ad 24 0 0) = some (.inl (G.2 8, (yL Y).2, .inr (.inr (.inr (.inr (rf_of (aL S2) (fun i => ad 27 i 0))))))) := mq_n e_69 h_64 (mq_neB h_64 h_67)
            have h_73 : f_68 (ad 35 j 0) = some (.inl (G.2 0, 4, .inl (eqF e9.2.2.1))) := mq_n e_69 h_65 (mq_neB h_65 h_67)
            have h_74 : f_68 q122 = some (.inl (G.2 0, 4, .inl (eqF (va, vb, vc, vd)))) := mq_n e_69 h_66 (Ne.symm (mq_neN y27e hq122))
            have h_75 : f_68 (ad 27 j 0) = some (.inr (14, [.ref (ad 28 j 0), .ref (ad 32 j 0), .ref (ad 35 j 0), .int (nI (e9.1)), .int (nI (e9.2.2.2.1)), .int (nI (e9.2.2.2.2)), .ref (ad 35 j 0), .ref q122])) := mq_s e_69
            refine lv_aload hx hb dX11_step_174 (lv_at hl 1 rfl) ?_
            refine lv_dup hx hb dX11_step_176 rfl ?_
            refine mq_get (ci := 14) (v := .int (nI (e9.2.2.2.1))) (C := RX9) (T := TX9) (N := 8) hx hb hts nX9 hown hK hM h_75 rfl 4 (by decide) w6 (fun _ h9 => h9) rfl dX11_step_177 ?_
            refine lv_iconst (v := 1) hx hb dX11_step_180 (by decide) ?_
            refine lv_iadd hx hb dX11_step_181 ?_
            rw [show (nI (e9.2.2.2.1)) + 1 = nI (e9.2.2.2.1 + 1) from nI_add _ _]
            refine mq_put (ci := 14) (v := .int (nI (e9.2.2.2.1 + 1))) (ty := .int) (C := RX9) (T := TX9) (N := 8) (fs' := [.ref (ad 28 j 0), .ref (ad 32 j 0), .ref (ad 35 j 0), .int (nI (e9.1)), .int (nI (e9.2.2.2.1 + 1)), .int (nI (e9.2.2.2.2)), .ref (ad 35 j 0), .ref q122]) hx hb hts nX9 tyX9 tyX9_ok nmX9 hown hK hM hS h_75 rfl 4 (by decide) w6 (fun _ h9 => h9) rfl (by decide +kernel) rfl rfl (Nat.le_of_ble_eq_true rfl) dX11_step_182 rfl (fun f_76 H locs e_77 hM hS => ?_)
            have h_78 : f_76 (ad 20 0 0) = some (.inr (16, [.int 0, .int (nI (aD S2)), .ref (ad 21 0 0), .ref (ad 23 0 0)])) := mq_n e_77 h_70 (mq_neO h_70 h_75 (by decide))
            have h_79 : f_76 (ad 23 0 0) = some (.inr (4, [.int ((yL Y).1), .ref (ad 24 0 0), .int (nI (aL S2))])) := mq_n e_77 h_71 (mq_neO h_71 h_75 (by decide))
            have h_80 : f_76 (ad 24 0 0) = some (.inl (G.2 8, (yL Y).2, .inr (.inr (.inr (.inr (rf_of (aL S2) (fun i => ad 27 i 0))))))) := mq_n e_77 h_72 (mq_neB h_72 h_75)
            have h_81 : f_76 (ad 35 j 0) = some (.inl (G.2 0, 4, .inl (eqF e9.2.2.1))) := mq_n e_77 h_73 (mq_neB h_73 h_75)
            have h_82 : f_76 q122 = some (.inl (G.2 0, 4, .inl (eqF (va, vb, vc, vd)))) := mq_n e_77 h_74 (Ne.symm (mq_neN y27e hq122))
            have h_83 : f_76 (ad 27 j 0) = some (.inr (14, [.ref (ad 28 j 0), .ref (ad 32 j 0), .ref (ad 35 j 0), .int (nI (e9.1)), .int (nI (e9.2.2.2.1 + 1)), .int (nI (e9.2.2.2.2)), .ref (ad 35 j 0), .ref q122])) := mq_s e_77
            refine lv_bipush (v := 119) hx hb dX11_step_185 (by decide) ?_
            refine W.widen (k := 2) (n := 804) (Nat.le_of_ble_eq_true rfl) (Nat.le_of_ble_eq_true rfl) ?_
            exact mq_zret (v := 119) hx hb hr (rfl) hlocks hM hS (⟨0, _, Y, _, (spL_y hj hl4).trans ((if_pos (by rw [← hb9, c_82])).trans (by rw [he9]; exact if_neg (by rw [hsm]; decide))), WR_wrR hR1 (va, vb, vc, vd) q122 hj he9 hq122 (f1 := f_36) (by rw [e_37, e_29, e_21, e_13, e_5] <;> (try simp only [mq_uu]) <;> rfl) (by rw [e_77, e_69, e_61] <;> (try simp only [mq_uu]) <;> rfl), mCp_le hO.2 rfl, ⟨rfl, rfl, rfl, rfl⟩⟩) dX11_step_187
        · obtain ⟨he9, hR9⟩ := nx_1 p100 c_103
          refine lv_iconst (v := 0) hx hb dX11_step_106 (by decide) ?_
          refine W.widen (k := 2) (n := 804) (Nat.le_of_ble_eq_true rfl) (Nat.le_of_ble_eq_true rfl) ?_
          exact mq_zret (v := 0) hx hb hr (rfl) hlocks hM hS (⟨3, S2, Y, ad, (spL_y hj hl4).trans ((if_pos (by rw [← hb9, c_82])).trans (by rw [he9]; rfl)), hR9, hO.2, adK_id⟩) dX11_step_107
      · replace c_82 : zb b9 = 0 := c_82
        rw [zb_0] at c_82
        refine lv_iconst (v := 1) hx hb dX11_step_85 (by decide) ?_
        refine lv_goto (tgt := 90) hx hb dX11_step_86 (by decide) ?_
        refine lv_iconst (v := 2) hx hb dX11_step_90 (by decide) ?_
        refine mq_calli (va_runV (As := [.int 1, .int 2]) (rest := []) ⟨hx, hb, hml, hown, hts⟩ (c_X11_fails l G A f_1 (ad 20 0 0) true 2 0 (nI (aD S2)) (ad 21 0 0) (ad 23 0 0)) (cwV 2 hts gX11_step_X11_fails rfl rfl rfl (by decide +kernel) ⟨Nat.le_of_ble_eq_true rfl, Nat.le_of_ble_eq_true rfl⟩) (mq_preV hK hZ hS hA hM (q := (RX11, TX11, 4)) h_3 rfl (h_3) _) rfl rfl hl.1 rfl (lv_room (Nat.le_of_ble_eq_true rfl)) dX11_step_91 ⟨Nat.le_of_ble_eq_true rfl, Nat.le_of_ble_eq_true rfl⟩) hS (fun r91 g91 H locs p91 hM hS => ?_)
        refine W.widen (k := 0) (n := 0) (Nat.le_of_ble_eq_true rfl) (Nat.le_of_ble_eq_true rfl) ?_
        obtain ⟨hg, hr9⟩ := p91
        rw [hr9, show zb (decide (fT true 0 2 ≠ 0)) = 1 from by decide]
        refine lv_if_ne (tgt := 106) hx hb dX11_step_94 (by decide) (fun c_94 => ?_) (fun c_94 => absurd c_94 (by decide))
        refine lv_iconst (v := 0) hx hb dX11_step_106 (by decide) ?_
        refine W.widen (k := 2) (n := 804) (Nat.le_of_ble_eq_true rfl) (Nat.le_of_ble_eq_true rfl) ?_
        exact mq_zret (v := 0) hx hb hr (rfl) hlocks hM hS (⟨2, S2, Y, ad, (spL_y hj hl4).trans (if_neg (by rw [← hb9, c_82]; decide)), (by have q9 := WR_yt hR1 hg; exact q9), hO.2, adK_id⟩) dX11_step_107
  refine lv_iload_n hx hb dX11_step_5 rfl (lv_at hl 2 rfl) ?_
  refine lv_sipush (v := (-9999)) hx hb dX11_step_6 (by decide) ?_
  refine lv_sipush (v := 9999) hx hb dX11_step_9 (by decide) ?_
  refine mq_calli (va_runS (As := [.int va, .int (-9999), .int 9999]) (rest := []) ⟨hx, hb, hml, hown, hts⟩ (c_X11_in l G A f_1 va (-9999) 9999) (va_cwS 3 hts gX11_step_X11_in rfl rfl rfl (by decide +kernel) ⟨Nat.le_of_ble_eq_true rfl, Nat.le_of_ble_eq_true rfl⟩) (mq_preS hK hZ hS hA hM (trivial) _) rfl rfl hl.1 rfl (lv_room (Nat.le_of_ble_eq_true rfl)) dX11_step_12 ⟨Nat.le_of_ble_eq_true rfl, Nat.le_of_ble_eq_true rfl⟩) hS (fun r12 g12 H locs p12 hM hS => ?_)
  refine W.widen (k := 0) (n := 0) (Nat.le_of_ble_eq_true rfl) (Nat.le_of_ble_eq_true rfl) ?_
  obtain ⟨rfl, rfl⟩ := p12
  rw [inB_tld]
  refine lv_if_eq (tgt := 63) hx hb dX11_step_15 (by decide) (fun c_15 => ?_) (fun c_15 => ?_)
  · replace c_15 : zb (tld va) = 0 := c_15
    rw [zb_0] at c_15
    refine lv_iconst (v := 0) hx hb dX11_step_63 (by decide) ?_
    exact K64 false (by rw [c_15]; rfl) _ _ hM hS _ (lv_sub hl [0, 1, 2, 3, 4, 5] rfl)
  · replace c_15 : ¬ zb (tld va) = 0 := c_15
    rw [zb_n0] at c_15
    refine lv_iload_n hx hb dX11_step_18 rfl (lv_at hl 3 rfl) ?_
    refine lv_sipush (v := (-9999)) hx hb dX11_step_19 (by decide) ?_
    refine lv_sipush (v := 9999) hx hb dX11_step_22 (by decide) ?_
    refine mq_calli (va_runS (As := [.int vb, .int (-9999), .int 9999]) (rest := []) ⟨hx, hb, hml, hown, hts⟩ (c_X11_in l G A f_1 vb (-9999) 9999) (va_cwS 3 hts gX11_step_X11_in rfl rfl rfl (by decide +kernel) ⟨Nat.le_of_ble_eq_true rfl, Nat.le_of_ble_eq_true rfl⟩) (mq_preS hK hZ hS hA hM (trivial) _) rfl rfl hl.1 rfl (lv_room (Nat.le_of_ble_eq_true rfl)) dX11_step_25 ⟨Nat.le_of_ble_eq_true rfl, Nat.le_of_ble_eq_true rfl⟩) hS (fun r25 g25 H locs p25 hM hS => ?_)
    refine W.widen (k := 0) (n := 0) (Nat.le_of_ble_eq_true rfl) (Nat.le_of_ble_eq_true rfl) ?_
    obtain ⟨rfl, rfl⟩ := p25
    rw [inB_tld]
    refine lv_if_eq (tgt := 63) hx hb dX11_step_28 (by decide) (fun c_28 => ?_) (fun c_28 => ?_)
    · replace c_28 : zb (tld vb) = 0 := c_28
      rw [zb_0] at c_28
      refine lv_iconst (v := 0) hx hb dX11_step_63 (by decide) ?_
      exact K64 false (by rw [c_15, c_28]; rfl) _ _ hM hS _ (lv_sub hl [0, 1, 2, 3, 4, 5] rfl)
    · replace c_28 : ¬ zb (tld vb) = 0 := c_28
      rw [zb_n0] at c_28
      refine lv_iload hx hb dX11_step_31 (lv_at hl 4 rfl) ?_
      refine lv_sipush (v := (-9999)) hx hb dX11_step_33 (by decide) ?_
      refine lv_sipush (v := 9999) hx hb dX11_step_36 (by decide) ?_
      refine mq_calli (va_runS (As := [.int vc, .int (-9999), .int 9999]) (rest := []) ⟨hx, hb, hml, hown, hts⟩ (c_X11_in l G A f_1 vc (-9999) 9999) (va_cwS 3 hts gX11_step_X11_in rfl rfl rfl (by decide +kernel) ⟨Nat.le_of_ble_eq_true rfl, Nat.le_of_ble_eq_true rfl⟩) (mq_preS hK hZ hS hA hM (trivial) _) rfl rfl hl.1 rfl (lv_room (Nat.le_of_ble_eq_true rfl)) dX11_step_39 ⟨Nat.le_of_ble_eq_true rfl, Nat.le_of_ble_eq_true rfl⟩) hS (fun r39 g39 H locs p39 hM hS => ?_)
      refine W.widen (k := 0) (n := 0) (Nat.le_of_ble_eq_true rfl) (Nat.le_of_ble_eq_true rfl) ?_
      obtain ⟨rfl, rfl⟩ := p39
      rw [inB_tld]
      refine lv_if_eq (tgt := 63) hx hb dX11_step_42 (by decide) (fun c_42 => ?_) (fun c_42 => ?_)
      · replace c_42 : zb (tld vc) = 0 := c_42
        rw [zb_0] at c_42
        refine lv_iconst (v := 0) hx hb dX11_step_63 (by decide) ?_
        exact K64 false (by rw [c_15, c_28, c_42]; rfl) _ _ hM hS _ (lv_sub hl [0, 1, 2, 3, 4, 5] rfl)
      · replace c_42 : ¬ zb (tld vc) = 0 := c_42
        rw [zb_n0] at c_42
        refine lv_iload hx hb dX11_step_45 (lv_at hl 5 rfl) ?_
        refine lv_sipush (v := (-9999)) hx hb dX11_step_47 (by decide) ?_
        refine lv_sipush (v := 9999) hx hb dX11_step_50 (by decide) ?_
        refine mq_calli (va_runS (As := [.int vd, .int (-9999), .int 9999]) (rest := []) ⟨hx, hb, hml, hown, hts⟩ (c_X11_in l G A f_1 vd (-9999) 9999) (va_cwS 3 hts gX11_step_X11_in rfl rfl rfl (by decide +kernel) ⟨Nat.le_of_ble_eq_true rfl, Nat.le_of_ble_eq_true rfl⟩) (mq_preS hK hZ hS hA hM (trivial) _) rfl rfl hl.1 rfl (lv_room (Nat.le_of_ble_eq_true rfl)) dX11_step_53 ⟨Nat.le_of_ble_eq_true rfl, Nat.le_of_ble_eq_true rfl⟩) hS (fun r53 g53 H locs p53 hM hS => ?_)
        refine W.widen (k := 0) (n := 0) (Nat.le_of_ble_eq_true rfl) (Nat.le_of_ble_eq_true rfl) ?_
        obtain ⟨rfl, rfl⟩ := p53
        rw [inB_tld]
        refine lv_if_eq (tgt := 63) hx hb dX11_step_56 (by decide) (fun c_56 => ?_) (fun c_56 => ?_)
        · replace c_56 : zb (tld vd) = 0 := c_56
          rw [zb_0] at c_56
          refine lv_iconst (v := 0) hx hb dX11_step_63 (by decide) ?_
          exact K64 false (by rw [c_15, c_28, c_42, c_56]; rfl) _ _ hM hS _ (lv_sub hl [0, 1, 2, 3, 4, 5] rfl)
        · replace c_56 : ¬ zb (tld vd) = 0 := c_56
          rw [zb_n0] at c_56
          refine lv_iconst (v := 1) hx hb dX11_step_59 (by decide) ?_
          refine lv_goto (tgt := 64) hx hb dX11_step_60 (by decide) ?_
          exact K64 true (by rw [c_15, c_28, c_42, c_56]; rfl) _ _ hM hS _ (lv_sub hl [0, 1, 2, 3, 4, 5] rfl)
