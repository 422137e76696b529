/-! THE REFERENCE: make -/
theorem mkT_stop {md : List Nat} {w : Nat} (hw : w < 1260) : lat md (mkT (lat md) 3 w) = false := by
  cases h0 : lat md w with
  | false => rw [mkT_f h0]; exact h0
  | true =>
    rw [mkT_t h0]
    cases h1 : lat md ((w + 1) % 1260) with
    | false => rw [mkT_f h1]; exact h1
    | true =>
      rw [mkT_t h1]
      cases h2 : lat md (((w + 1) % 1260 + 1) % 1260) with
      | false => rw [mkT_f h2]; exact h2
      | true =>
        rw [mkT_t h2]
        show lat md ((((w + 1) % 1260 + 1) % 1260 + 1) % 1260) = false
        cases h3 : lat md ((((w + 1) % 1260 + 1) % 1260 + 1) % 1260) with
        | false => rfl
        | true =>
          exfalso
          obtain ⟨t0, a0, b0, c0⟩ := lat_iff.mp h0
          obtain ⟨t1, a1, b1, c1⟩ := lat_iff.mp h1
          obtain ⟨t2, a2, b2, c2⟩ := lat_iff.mp h2
          obtain ⟨t3, a3, b3, c3⟩ := lat_iff.mp h3
          have n01 : t0 ≠ t1 := fun q => by rw [q, c1] at c0; omega
          have n02 : t0 ≠ t2 := fun q => by rw [q, c2] at c0; omega
          have n03 : t0 ≠ t3 := fun q => by rw [q, c3] at c0; omega
          have n12 : t1 ≠ t2 := fun q => by rw [q, c2] at c1; omega
          have n13 : t1 ≠ t3 := fun q => by rw [q, c3] at c1; omega
          have n23 : t2 ≠ t3 := fun q => by rw [q, c3] at c2; omega
          omega
theorem mCp_md {S2 : AT} {Y : MX} {j cap : Nat} {v : leT} {mc : Int32} {o : Nat × Nat × Nat} (h : mCp S2 Y) (hc : lcO (lMd v).length cap) : mCp (sLe S2 j v) (yMn Y j (mc, cap) o) := by
  refine ⟨h.1, h.2.1, h.2.2.1, fun j' hj => ?_⟩
  show lcO (lMd (fU (aE S2) j v j')).length (fU (yM Y) j (mc, cap) j').2
  unfold fU
  split
  · exact hc
  · exact h.2.2.2 j' hj
theorem lMd_mk {S : AT} {j k n : Nat} : lMd (aE (nsMake S j k n) j) = lMd (aE S j) ++ [n] := by
  show lMd (fU (aE S) j _ j) = _
  rw [fU_s]

set_option maxHeartbeats 2000000 in
theorem cT_mr {G : mq_G} {ad : AD} {S : AT} {X : CX} {S2 : AT} {Y : MX} {O : OX} {j0 k0 v q r cap : Nat} {mc : Int32} {z1 : va_E} (hc : cap ≠ 0) (hj : j0 < aL S2) : cU (cU (cU (cU (cU (cU (cT G ad S X S2 Y O) 35 j0 0 (cIn G 4 (eqF (ex_eq v)))) 34 j0 (lMd (aE S2 j0)).length (cIn G 4 (eqF (ex_eq v)))) 27 j0 0 z1) 33 j0 0 (cRf (G.2 8) cap (rf_of ((lMd (aE S2 j0)).length + 1) (fun i => if i = (lMd (aE S2 j0)).length then q else ad 34 j0 i)))) 32 j0 0 (cLs mc r ((lMd (aE S2 j0)).length + 1))) 27 j0 0 (.inr (14, [.ref (ad 28 j0 0), .ref (ad 32 j0 0), .ref q, .int (nI k0), .int (nI 0), .int (nI 0), va_rf (oMap (lWs (aE S2 j0)) (ad 36 j0 0)), va_rf (oMap (lWs (aE S2 j0)) (ad 37 j0 0))])) = cT G (adU (adU (adU ad 35 j0 0 q) 34 j0 (lMd (aE S2 j0)).length q) 33 j0 0 r) S X (nsMake S2 j0 k0 v) (yMn Y j0 (mc, cap) (yO Y j0)) O := by
  funext a j k
  exact (match a with
    | 0 => by first | rfl | (simp [aN, aL, aD, aS, aM, aE, sTop, sSk, sMa, sLe, xW, xLn, xOl, xB, xSo, xR, xK, sW, sRi, sXp, lEx, lWs, lMd, cU, cT, adU, fU, fU2]; done)
    | 1 => by first | rfl | (simp [aN, aL, aD, aS, aM, aE, sTop, sSk, sMa, sLe, xW, xLn, xOl, xB, xSo, xR, xK, sW, sRi, sXp, lEx, lWs, lMd, cU, cT, adU, fU, fU2]; done)
    | 2 => by first | rfl | (simp [aN, aL, aD, aS, aM, aE, sTop, sSk, sMa, sLe, xW, xLn, xOl, xB, xSo, xR, xK, sW, sRi, sXp, lEx, lWs, lMd, cU, cT, adU, fU, fU2]; done)
    | 3 => by first | rfl | (simp [aN, aL, aD, aS, aM, aE, sTop, sSk, sMa, sLe, xW, xLn, xOl, xB, xSo, xR, xK, sW, sRi, sXp, lEx, lWs, lMd, cU, cT, adU, fU, fU2]; done)
    | 4 => by first | rfl | (simp [aN, aL, aD, aS, aM, aE, sTop, sSk, sMa, sLe, xW, xLn, xOl, xB, xSo, xR, xK, sW, sRi, sXp, lEx, lWs, lMd, cU, cT, adU, fU, fU2]; done)
    | 5 => by first | rfl | (simp [aN, aL, aD, aS, aM, aE, sTop, sSk, sMa, sLe, xW, xLn, xOl, xB, xSo, xR, xK, sW, sRi, sXp, lEx, lWs, lMd, cU, cT, adU, fU, fU2]; done)
    | 6 => by first | rfl | (simp [aN, aL, aD, aS, aM, aE, sTop, sSk, sMa, sLe, xW, xLn, xOl, xB, xSo, xR, xK, sW, sRi, sXp, lEx, lWs, lMd, cU, cT, adU, fU, fU2]; done)
    | 7 => by first | rfl | (simp [aN, aL, aD, aS, aM, aE, sTop, sSk, sMa, sLe, xW, xLn, xOl, xB, xSo, xR, xK, sW, sRi, sXp, lEx, lWs, lMd, cU, cT, adU, fU, fU2]; done)
    | 8 => by first | rfl | (simp [aN, aL, aD, aS, aM, aE, sTop, sSk, sMa, sLe, xW, xLn, xOl, xB, xSo, xR, xK, sW, sRi, sXp, lEx, lWs, lMd, cU, cT, adU, fU, fU2]; done)
    | 9 => by first | rfl | (simp [aN, aL, aD, aS, aM, aE, sTop, sSk, sMa, sLe, xW, xLn, xOl, xB, xSo, xR, xK, sW, sRi, sXp, lEx, lWs, lMd, cU, cT, adU, fU, fU2]; done)
    | 10 => by first | rfl | (simp [aN, aL, aD, aS, aM, aE, sTop, sSk, sMa, sLe, xW, xLn, xOl, xB, xSo, xR, xK, sW, sRi, sXp, lEx, lWs, lMd, cU, cT, adU, fU, fU2]; done)
    | 11 => by first | rfl | (simp [aN, aL, aD, aS, aM, aE, sTop, sSk, sMa, sLe, xW, xLn, xOl, xB, xSo, xR, xK, sW, sRi, sXp, lEx, lWs, lMd, cU, cT, adU, fU, fU2]; done)
    | 12 => by first | rfl | (simp [aN, aL, aD, aS, aM, aE, sTop, sSk, sMa, sLe, xW, xLn, xOl, xB, xSo, xR, xK, sW, sRi, sXp, lEx, lWs, lMd, cU, cT, adU, fU, fU2]; done)
    | 13 => by first | rfl | (simp [aN, aL, aD, aS, aM, aE, sTop, sSk, sMa, sLe, xW, xLn, xOl, xB, xSo, xR, xK, sW, sRi, sXp, lEx, lWs, lMd, cU, cT, adU, fU, fU2]; done)
    | 14 => by first | rfl | (simp [aN, aL, aD, aS, aM, aE, sTop, sSk, sMa, sLe, xW, xLn, xOl, xB, xSo, xR, xK, sW, sRi, sXp, lEx, lWs, lMd, cU, cT, adU, fU, fU2]; done)
    | 15 => by first | rfl | (simp [aN, aL, aD, aS, aM, aE, sTop, sSk, sMa, sLe, xW, xLn, xOl, xB, xSo, xR, xK, sW, sRi, sXp, lEx, lWs, lMd, cU, cT, adU, fU, fU2]; done)
    | 16 => by first | rfl | (simp [aN, aL, aD, aS, aM, aE, sTop, sSk, sMa, sLe, xW, xLn, xOl, xB, xSo, xR, xK, sW, sRi, sXp, lEx, lWs, lMd, cU, cT, adU, fU, fU2]; done)
    | 17 => by first | rfl | (simp [aN, aL, aD, aS, aM, aE, sTop, sSk, sMa, sLe, xW, xLn, xOl, xB, xSo, xR, xK, sW, sRi, sXp, lEx, lWs, lMd, cU, cT, adU, fU, fU2]; done)
    | 18 => by first | rfl | (simp [aN, aL, aD, aS, aM, aE, sTop, sSk, sMa, sLe, xW, xLn, xOl, xB, xSo, xR, xK, sW, sRi, sXp, lEx, lWs, lMd, cU, cT, adU, fU, fU2]; done)
    | 19 => by first | rfl | (simp [aN, aL, aD, aS, aM, aE, sTop, sSk, sMa, sLe, xW, xLn, xOl, xB, xSo, xR, xK, sW, sRi, sXp, lEx, lWs, lMd, cU, cT, adU, fU, fU2]; done)
    | 20 => by first | rfl | (simp [aN, aL, aD, aS, aM, aE, sTop, sSk, sMa, sLe, xW, xLn, xOl, xB, xSo, xR, xK, sW, sRi, sXp, lEx, lWs, lMd, cU, cT, adU, fU, fU2]; done)
    | 21 => by first | rfl | (simp [aN, aL, aD, aS, aM, aE, sTop, sSk, sMa, sLe, xW, xLn, xOl, xB, xSo, xR, xK, sW, sRi, sXp, lEx, lWs, lMd, cU, cT, adU, fU, fU2]; done)
    | 22 => by first | rfl | (simp [aN, aL, aD, aS, aM, aE, sTop, sSk, sMa, sLe, xW, xLn, xOl, xB, xSo, xR, xK, sW, sRi, sXp, lEx, lWs, lMd, cU, cT, adU, fU, fU2]; done)
    | 23 => by first | rfl | (simp [aN, aL, aD, aS, aM, aE, sTop, sSk, sMa, sLe, xW, xLn, xOl, xB, xSo, xR, xK, sW, sRi, sXp, lEx, lWs, lMd, cU, cT, adU, fU, fU2]; done)
    | 24 => by first | rfl | (simp [aN, aL, aD, aS, aM, aE, sTop, sSk, sMa, sLe, xW, xLn, xOl, xB, xSo, xR, xK, sW, sRi, sXp, lEx, lWs, lMd, cU, cT, adU, fU, fU2]; done)
    | 25 => by first | rfl | (simp [aN, aL, aD, aS, aM, aE, sTop, sSk, sMa, sLe, xW, xLn, xOl, xB, xSo, xR, xK, sW, sRi, sXp, lEx, lWs, lMd, cU, cT, adU, fU, fU2]; done)
    | 26 => by first | rfl | (simp [aN, aL, aD, aS, aM, aE, sTop, sSk, sMa, sLe, xW, xLn, xOl, xB, xSo, xR, xK, sW, sRi, sXp, lEx, lWs, lMd, cU, cT, adU, fU, fU2]; done)
    | 27 => by
        by_cases h : j = j0
        · subst h; by_cases h2 : k = 0 <;> simp [aN, aL, aD, aS, aM, aE, sTop, sSk, sMa, sLe, lEx, lWs, lMd, cU, cT, adU, fU, fU2, yT, yS, yL, yA, yM, yO, yAn, yMn, oMap, hj, h2, exN, va_rf]
        · simp [aN, aL, aD, aS, aM, aE, sTop, sSk, sMa, sLe, lEx, lWs, lMd, cU, cT, adU, fU, fU2, yT, yS, yL, yA, yM, yO, yAn, yMn, oMap, h]
    | 28 => by first | rfl | (simp [aN, aL, aD, aS, aM, aE, sTop, sSk, sMa, sLe, xW, xLn, xOl, xB, xSo, xR, xK, sW, sRi, sXp, lEx, lWs, lMd, cU, cT, adU, fU, fU2]; done)
    | 29 => by first | rfl | (simp [aN, aL, aD, aS, aM, aE, sTop, sSk, sMa, sLe, xW, xLn, xOl, xB, xSo, xR, xK, sW, sRi, sXp, lEx, lWs, lMd, cU, cT, adU, fU, fU2]; done)
    | 30 => by first | rfl | (simp [aN, aL, aD, aS, aM, aE, sTop, sSk, sMa, sLe, xW, xLn, xOl, xB, xSo, xR, xK, sW, sRi, sXp, lEx, lWs, lMd, cU, cT, adU, fU, fU2]; done)
    | 31 => by first | rfl | (simp [aN, aL, aD, aS, aM, aE, sTop, sSk, sMa, sLe, xW, xLn, xOl, xB, xSo, xR, xK, sW, sRi, sXp, lEx, lWs, lMd, cU, cT, adU, fU, fU2]; done)
    | 32 => by
        by_cases h : j = j0
        · subst h; by_cases h2 : k = 0 <;> simp [aN, aL, aD, aS, aM, aE, sTop, sSk, sMa, sLe, lEx, lWs, lMd, cU, cT, adU, fU, fU2, yT, yS, yL, yA, yM, yO, yAn, yMn, oMap, hj, h2, hc, lsD]
        · simp [aN, aL, aD, aS, aM, aE, sTop, sSk, sMa, sLe, lEx, lWs, lMd, cU, cT, adU, fU, fU2, yT, yS, yL, yA, yM, yO, yAn, yMn, oMap, h]
    | 33 => by
        by_cases h : j = j0
        · subst h
          by_cases h2 : k = 0
          · subst h2
            have e1 : (fun i => if i = (lMd (aE S2 j)).length then q else ad 34 j i) = (fun i => adU (adU (adU ad 35 j 0 q) 34 j (lMd (aE S2 j)).length q) 33 j 0 r 34 j i) := by
              funext i; simp [adU]
            have e3 := t33 (G := G) (ad := adU (adU (adU ad 35 j 0 q) 34 j (lMd (aE S2 j)).length q) 33 j 0 r) (S := S) (X := X) (S2 := nsMake S2 j k0 v) (Y := yMn Y j (mc, cap) (yO Y j)) (O := O) (j := j) (show (fU (yM Y) j (mc, cap) j).2 ≠ 0 by rw [fU_s]; exact hc) hj
            rw [e3, show yM (yMn Y j (mc, cap) (yO Y j)) j = (mc, cap) from fU_s, lMd_mk, show ((lMd (aE S2 j)) ++ [v]).length = (lMd (aE S2 j)).length + 1 by simp, ← e1]
            simp [cU]
          · simp [aN, aL, aD, aS, aM, aE, sTop, sSk, sMa, sLe, lEx, lWs, lMd, cU, cT, adU, fU, fU2, yT, yS, yL, yA, yM, yO, yAn, yMn, oMap, h2]
        · simp [aN, aL, aD, aS, aM, aE, sTop, sSk, sMa, sLe, lEx, lWs, lMd, cU, cT, adU, fU, fU2, yT, yS, yL, yA, yM, yO, yAn, yMn, oMap, h]
    | 34 => by
        by_cases h : j = j0
        · subst h
          show _ = (if j < aL S2 ∧ k < (lMd (aE (nsMake S2 j k0 v) j)).length then some (cIn G 4 (eqF (ex_eq ((lMd (aE (nsMake S2 j k0 v) j)).getD k 0)))) else none)
          rw [lMd_mk, show ((lMd (aE S2 j)) ++ [v]).length = (lMd (aE S2 j)).length + 1 by simp]
          by_cases h2 : k = (lMd (aE S2 j)).length
          · rw [if_pos ⟨hj, by omega⟩, h2, getD_r]; simp [cU]
          · by_cases h3 : k < (lMd (aE S2 j)).length
            · rw [if_pos ⟨hj, by omega⟩, getD_l h3]
              have h4 : cT G ad S X S2 Y O 34 j k = some (cIn G 4 (eqF (ex_eq ((lMd (aE S2 j)).getD k 0)))) := t34 hj h3
              rw [← h4]; simp [cU, h2]
            · rw [if_neg (by omega)]
              have h4 : cT G ad S X S2 Y O 34 j k = none := if_neg (fun q => h3 q.2)
              rw [← h4]; simp [cU, h2]
        · simp [aN, aL, aD, aS, aM, aE, sTop, sSk, sMa, sLe, lEx, lWs, lMd, cU, cT, adU, fU, fU2, yT, yS, yL, yA, yM, yO, yAn, yMn, oMap, h]
    | 35 => by
        by_cases h : j = j0
        · subst h; by_cases h2 : k = 0 <;> simp [aN, aL, aD, aS, aM, aE, sTop, sSk, sMa, sLe, lEx, lWs, lMd, cU, cT, adU, fU, fU2, yT, yS, yL, yA, yM, yO, yAn, yMn, oMap, hj, h2]
        · simp [aN, aL, aD, aS, aM, aE, sTop, sSk, sMa, sLe, lEx, lWs, lMd, cU, cT, adU, fU, fU2, yT, yS, yL, yA, yM, yO, yAn, yMn, oMap, h]
    | 36 => by
        by_cases h : j = j0
        · subst h; by_cases h2 : k = 0 <;> simp [aN, aL, aD, aS, aM, aE, sTop, sSk, sMa, sLe, lEx, lWs, lMd, cU, cT, adU, fU, fU2, yT, yS, yL, yA, yM, yO, yAn, yMn, oMap, hj, h2]
        · simp [aN, aL, aD, aS, aM, aE, sTop, sSk, sMa, sLe, lEx, lWs, lMd, cU, cT, adU, fU, fU2, yT, yS, yL, yA, yM, yO, yAn, yMn, oMap, h]
    | 37 => by
        by_cases h : j = j0
        · subst h; by_cases h2 : k = 0 <;> simp [aN, aL, aD, aS, aM, aE, sTop, sSk, sMa, sLe, lEx, lWs, lMd, cU, cT, adU, fU, fU2, yT, yS, yL, yA, yM, yO, yAn, yMn, oMap, hj, h2]
        · simp [aN, aL, aD, aS, aM, aE, sTop, sSk, sMa, sLe, lEx, lWs, lMd, cU, cT, adU, fU, fU2, yT, yS, yL, yA, yM, yO, yAn, yMn, oMap, h]
    | 38 => by first | rfl | (simp [aN, aL, aD, aS, aM, aE, sTop, sSk, sMa, sLe, xW, xLn, xOl, xB, xSo, xR, xK, sW, sRi, sXp, lEx, lWs, lMd, cU, cT, adU, fU, fU2]; done)
    | 39 => by first | rfl | (simp [aN, aL, aD, aS, aM, aE, sTop, sSk, sMa, sLe, xW, xLn, xOl, xB, xSo, xR, xK, sW, sRi, sXp, lEx, lWs, lMd, cU, cT, adU, fU, fU2]; done)
    | n + 40 => by first | rfl | simp [cU, cT])

theorem WR_mkR {G : mq_G} {f g : mq_F} {ad : AD} {S : AT} {X : CX} {S2 : AT} {Y : MX} {O : OX} {f1 f2 f3 : mq_F} {j k v q : Nat} {mc : Int32} {z1 : va_E} (hR : WR G f ad S X S2 Y O) (hj : j < aL S2) (hc : lcO (lMd (aE S2 j)).length (yM Y j).2) (hl : (lMd (aE S2 j)).length < 512) (hq : f q = none) (h1 : f1 = mq_up f q (cIn G 4 (eqF (ex_eq v)))) (h2 : f2 = mq_up f1 (ad 27 j 0) z1) (ha : addP G f2 f3 (ad 32 j 0) q mc (yM Y j).2 (ad 33 j 0) (lMd (aE S2 j)).length (fun i => ad 34 j i)) (hg : g = mq_up f3 (ad 27 j 0) (.inr (14, [.ref (ad 28 j 0), .ref (ad 32 j 0), .ref q, .int (nI k), .int (nI 0), .int (nI 0), va_rf (oMap (lWs (aE S2 j)) (ad 36 j 0)), va_rf (oMap (lWs (aE S2 j)) (ad 37 j 0))]))) :
    ∃ r cap, lcO ((lMd (aE S2 j)).length + 1) cap ∧ WR G g (adU (adU (adU ad 35 j 0 q) 34 j (lMd (aE S2 j)).length q) 33 j 0 r) S X (nsMake S2 j k v) (yMn Y j (mc, cap) (yO Y j)) O := by
  have r1 := RR.new hR (a := 35) (j := j) (k := 0) hq h1
  have r2 := RR.same r1 (a := 34) (j := j) (k := (lMd (aE S2 j)).length) (b := 35) (jb := j) (kb := 0) (e := cIn G 4 (eqF (ex_eq v))) cU_s rfl rfl
  rw [adU_s] at r2
  have e27 : cU (cU (cT G ad S X S2 Y O) 35 j 0 (cIn G 4 (eqF (ex_eq v)))) 34 j (lMd (aE S2 j)).length (cIn G 4 (eqF (ex_eq v))) 27 j 0 = cT G ad S X S2 Y O 27 j 0 := (cU_n (by simp)).trans (cU_n (by simp))
  have r3 := RR.put r2 (a := 27) (j := j) (k := 0) (e27.trans (t27 hj)) rfl (e := z1) (g := f2) h2
  unfold addP at ha
  rcases ha with ⟨h5, h6⟩ | ⟨h5, r, h5r, h6⟩
  · have hc0 : (yM Y j).2 ≠ 0 := by omega
    refine ⟨ad 33 j 0, (yM Y j).2, ⟨h5, hc.2⟩, ?_⟩
    have r4 := RR.put r3 (a := 33) (j := j) (k := 0) ((cU_n (by simp)).trans ((cU_n (by simp)).trans ((cU_n (by simp)).trans (t33 hc0 hj)))) rfl (e := cRf (G.2 8) (yM Y j).2 (rf_of ((lMd (aE S2 j)).length + 1) (fun i => if i = (lMd (aE S2 j)).length then q else ad 34 j i))) (g := mq_up f2 (ad 33 j 0) _) rfl
    have r5 := RR.put r4 (a := 32) (j := j) (k := 0) ((cU_n (by simp)).trans ((cU_n (by simp)).trans ((cU_n (by simp)).trans ((cU_n (by simp)).trans (t32 hj))))) rfl (e := cLs mc (ad 33 j 0) ((lMd (aE S2 j)).length + 1)) (g := f3) h6
    have r6 := RR.put r5 (a := 27) (j := j) (k := 0) ((cU_n (by simp)).trans ((cU_n (by simp)).trans cU_s)) rfl (g := g) hg
    have eA : adU (adU (adU ad 35 j 0 q) 34 j (lMd (aE S2 j)).length q) 33 j 0 (ad 33 j 0) = adU (adU ad 35 j 0 q) 34 j (lMd (aE S2 j)).length q := adU_id (ad := adU (adU ad 35 j 0 q) 34 j (lMd (aE S2 j)).length q)
    rw [← eA] at r6
    rw [cT_mr (r := ad 33 j 0) hc0 hj] at r6; exact r6
  · refine ⟨r, nc (lMd (aE S2 j)).length, nc_le hl, ?_⟩
    have hcn : nc (lMd (aE S2 j)).length ≠ 0 := by unfold nc; split <;> omega
    have r4 := RR.new r3 (a := 33) (j := j) (k := 0) h5r (e := cRf (G.2 8) (nc (yM Y j).2) (rf_of ((lMd (aE S2 j)).length + 1) (fun i => if i = (lMd (aE S2 j)).length then q else ad 34 j i))) (g := mq_up f2 r _) rfl
    have r5 := RR.put r4 (a := 32) (j := j) (k := 0) ((cU_n (by simp)).trans ((cU_n (by simp)).trans ((cU_n (by simp)).trans ((cU_n (by simp)).trans (t32 hj))))) rfl (e := cLs mc r ((lMd (aE S2 j)).length + 1)) (g := f3) h6
    have r6 := RR.put r5 (a := 27) (j := j) (k := 0) ((cU_n (by simp)).trans ((cU_n (by simp)).trans cU_s)) rfl (g := g) hg
    rw [← h5, cT_mr (r := r) hcn hj] at r6; exact r6

theorem addP_old {G : mq_G} {f g : mq_F} {x y a : Nat} {mo : Int32} {k d n : Nat} {gg : Nat → Nat} {e : va_E} (h : addP G f g x y mo k d n gg) (ha : f a = some e) (hx : a ≠ x) (hd : n < k → a ≠ d) : g a = some e := by
  rcases h with ⟨h1, h2⟩ | ⟨h1, q, h2, h3⟩
  · rw [h2, mq_up_n hx, mq_up_n (hd h1)]; exact ha
  · rw [h3, mq_up_n hx, mq_up_n (mq_neN ha h2)]; exact ha

set_option maxHeartbeats 4000000 in
set_option maxRecDepth 100000 in
theorem c_X11_make (l : Launch) (G : mq_G) (A : Nat → Prop) (f : mq_F) (ad : AD) (S : AT) (X : CX) (S2 : AT) (Y : MX) (O : OX) (T : Nat) (ua ub uc : Int32) : Met l yX11_make wsX11_make ({ frames := 12, cells := 6, slots := 820, locals := 230 } : Room) (mq_Pc G A f (WR G f ad S X S2 Y O ∧ mOK S2 Y T ∧ T < 512) [.ref (ad 20 0 0), .int ua, .int ub, .int uc]) (mq_Qi G A (fun r g => ∃ c9 S9 Y9 ad9, spMake S2 ua ub uc = (c9, r, S9) ∧ WR G g ad9 S X S9 (yThr Y9 (nI c9)) O ∧ mCp S9 Y9 ∧ adK ad ad9)) 6 820 A := by
  refine Met.ofW (cc := cX11_make) (maxL := 6) (ret := (some .int)) (by decide) rfl ?_
  intro p e s m args below meth c s₁ B hml hv
  obtain ⟨rfl, ⟨hK, hZ, hM, hA⟩, hp⟩ := hv
  have hx := B.exec
  have hb := B.bytes
  have hr := B.returns
  have hts := atoms_spec (ws := wsX11_make) B.pre
  have hown : s.vm.findClass RX11 = some m.cls := findClass_of_methodNamed B.named
  have hlocks := B.notSynchronized
  have hS : va_S A s.heap s.heap [] := va_S.rf
  have hl := lv_entry ([.ref (ad 20 0 0), .int ua, .int ub, .int uc]) (n := 6) (Nat.le_of_ble_eq_true rfl)
  rw [lg_entry_eq]
  generalize (lg_sl ([.ref (ad 20 0 0), .int ua, .int ub, .int uc]) ++ List.replicate (6 - (lg_sl ([.ref (ad 20 0 0), .int ua, .int ub, .int uc])).length) Slot.unset).toArray = ls at hl ⊢
  have hl : lv_has ls 6 [(0, .ref (ad 20 0 0)), (1, .int ua), (2, .int ub), (3, .int uc)] := hl
  have w0 := hts (.fieldLink RX11 19 "TutorlightModel" "thrown" "I") (List.mem_of_getElem? (i := 1) rfl)
  have w1 := hts (.fieldLink RX11 16 "TutorlightModel" "learners" "Ljava/util/ArrayList;") (List.mem_of_getElem? (i := 2) rfl)
  have w2 := hts (.classLink RX11 46 "TutorlightModel$Learner") (List.mem_of_getElem? (i := 3) rfl)
  have w3 := hts (.fieldLink RX11 186 "TutorlightModel$Learner" "equation" "[I") (List.mem_of_getElem? (i := 4) rfl)
  have w4 := hts (.fieldLink RX11 163 "TutorlightModel$Learner" "made" "Ljava/util/ArrayList;") (List.mem_of_getElem? (i := 5) rfl)
  have w5 := hts (.fieldLink RX11 188 "TutorlightModel$Learner" "skill" "I") (List.mem_of_getElem? (i := 6) rfl)
  have w6 := hts (.fieldLink RX11 191 "TutorlightModel$Learner" "wrong" "I") (List.mem_of_getElem? (i := 7) rfl)
  have w7 := hts (.fieldLink RX11 194 "TutorlightModel$Learner" "hints" "I") (List.mem_of_getElem? (i := 8) rfl)
  have nX11 : ∀ w ∈ wsX110, w ∈ wsX11_make := fun _ h => List.mem_cons_of_mem _ (List.mem_append_left _ (List.mem_append_left _ (List.mem_append_left _ (List.mem_append_left _ (List.mem_append_left _ (List.mem_append_right _ h))))))
  have nX9 : ∀ w ∈ wsX90, w ∈ wsX11_make := fun _ h => List.mem_cons_of_mem _ (List.mem_append_left _ (List.mem_append_left _ (List.mem_append_left _ (List.mem_append_left _ (List.mem_append_right _ h)))))
  obtain ⟨hR, hO, hT5⟩ := hp
  obtain ⟨⟨X9, ⟨hn, hl4, hd2, hT⟩, hsk, hma, hdc, hle, -⟩, ⟨hns, hnc⟩, ⟨hls, hlc⟩, hac, hmc⟩ := id hO
  have y20_278 := hR.1 _ _ _ _ (t20)
  refine lv_aload_n hx hb dX11_make_0 rfl (lv_at hl 0 rfl) ?_
  refine lv_iconst (v := 0) hx hb dX11_make_1 (by decide) ?_
  refine mq_put (ci := 16) (v := .int 0) (ty := .int) (C := RX11) (T := TX11) (N := 4) (fs' := [.int 0, .int (nI (aD S2)), .ref (ad 21 0 0), .ref (ad 23 0 0)]) hx hb hts nX11 tyX11 tyX11_ok nmX11 hown hK hM hS y20_278 rfl 0 (by decide) w0 (fun _ h9 => h9) rfl (by decide +kernel) rfl rfl (Nat.le_of_ble_eq_true rfl) dX11_make_2 rfl (fun f_1 H locs e_2 hM hS => ?_)
  have h_3 : f_1 (ad 20 0 0) = some (.inr (16, [.int 0, .int (nI (aD S2)), .ref (ad 21 0 0), .ref (ad 23 0 0)])) := mq_s e_2
  have hR1 := WR_yt hR e_2
  refine lv_aload_n hx hb dX11_make_5 rfl (lv_at hl 0 rfl) ?_
  refine lv_iload_n hx hb dX11_make_6 rfl (lv_at hl 1 rfl) ?_
  refine lv_iload_n hx hb dX11_make_7 rfl (lv_at hl 2 rfl) ?_
  refine mq_calli (va_runV (As := [.int ua, .int ub]) (rest := []) ⟨hx, hb, hml, hown, hts⟩ (c_X11_no l G A f_1 ad S X S2 (yThr Y 0) O T ua ub) (cwV 2 hts gX11_make_X11_no rfl rfl rfl (by decide +kernel) ⟨Nat.le_of_ble_eq_true rfl, Nat.le_of_ble_eq_true rfl⟩) (mq_preV hK hZ hS hA hM (q := (RX11, TX11, 4)) h_3 rfl (⟨hR1, hO.thr 0, rfl⟩) _) rfl rfl hl.1 rfl (lv_room (Nat.le_of_ble_eq_true rfl)) dX11_make_8 ⟨Nat.le_of_ble_eq_true rfl, Nat.le_of_ble_eq_true rfl⟩) hS (fun r8 g8 H locs p8 hM hS => ?_)
  refine W.widen (k := 0) (n := 0) (Nat.le_of_ble_eq_true rfl) (Nat.le_of_ble_eq_true rfl) ?_
  refine lv_if_ne (tgt := 60) hx hb dX11_make_11 (by decide) (fun c_11 => ?_) (fun c_11 => ?_)
  · obtain ⟨hno, hR9⟩ := no_1 p8 c_11
    refine lv_iconst (v := 0) hx hb dX11_make_60 (by decide) ?_
    refine W.widen (k := 6) (n := 820) (Nat.le_of_ble_eq_true rfl) (Nat.le_of_ble_eq_true rfl) ?_
    exact mq_iret (v := 0) hx hb hr hlocks hM hS (⟨1, S2, Y, ad, spLS_n hno, hR9, hO.2, adK_id⟩) dX11_make_61
  · obtain ⟨rfl, j, k, hj, hk, rfl, rfl⟩ := no_0 p8 c_11
    refine lv_aload_n hx hb dX11_make_14 rfl (lv_at hl 0 rfl) ?_
    refine lv_iload_n hx hb dX11_make_15 rfl (lv_at hl 3 rfl) ?_
    refine lv_iconst (v := 0) hx hb dX11_make_16 (by decide) ?_
    refine lv_sipush (v := 1259) hx hb dX11_make_17 (by decide) ?_
    refine mq_calli (va_runS (As := [.int uc, .int 0, .int 1259]) (rest := [.ref (ad 20 0 0)]) ⟨hx, hb, hml, hown, hts⟩ (c_X11_in l G A f_1 uc 0 1259) (va_cwS 3 hts gX11_make_X11_in rfl rfl rfl (by decide +kernel) ⟨Nat.le_of_ble_eq_true rfl, Nat.le_of_ble_eq_true rfl⟩) (mq_preS hK hZ hS hA hM (trivial) _) rfl rfl hl.1 rfl (lv_room (Nat.le_of_ble_eq_true rfl)) dX11_make_20 ⟨Nat.le_of_ble_eq_true rfl, Nat.le_of_ble_eq_true rfl⟩) hS (fun r20 g20 H locs p20 hM hS => ?_)
    refine W.widen (k := 0) (n := 0) (Nat.le_of_ble_eq_true rfl) (Nat.le_of_ble_eq_true rfl) ?_
    obtain ⟨rfl, rfl⟩ := p20
    rw [show inB uc 0 1259 = vI uc 1260 from inB_vI (n := 1260) (by decide)]
    refine lv_if_ne (tgt := 30) hx hb dX11_make_23 (by decide) (fun c_23 => ?_) (fun c_23 => ?_)
    · replace c_23 : ¬ zb (vI uc 1260) = 0 := c_23
      rw [zb_n0] at c_23
      obtain ⟨N, hN, rfl⟩ := vI_ex1 c_23
      refine lv_iconst (v := 0) hx hb dX11_make_30 (by decide) ?_
      refine lv_iconst (v := 2) hx hb dX11_make_31 (by decide) ?_
      refine mq_calli (va_runV (As := [.int 0, .int 2]) (rest := []) ⟨hx, hb, hml, hown, hts⟩ (c_X11_fails l G A f_1 (ad 20 0 0) false 2 0 (nI (aD S2)) (ad 21 0 0) (ad 23 0 0)) (cwV 2 hts gX11_make_X11_fails rfl rfl rfl (by decide +kernel) ⟨Nat.le_of_ble_eq_true rfl, Nat.le_of_ble_eq_true rfl⟩) (mq_preV hK hZ hS hA hM (q := (RX11, TX11, 4)) h_3 rfl (h_3) _) rfl rfl hl.1 rfl (lv_room (Nat.le_of_ble_eq_true rfl)) dX11_make_32 ⟨Nat.le_of_ble_eq_true rfl, Nat.le_of_ble_eq_true rfl⟩) hS (fun r32 g32 H locs p32 hM hS => ?_)
      refine W.widen (k := 0) (n := 0) (Nat.le_of_ble_eq_true rfl) (Nat.le_of_ble_eq_true rfl) ?_
      obtain ⟨hg, hr9⟩ := p32
      obtain rfl := fl_0 h_3 hg
      rw [hr9, show zb (decide (fT false 0 2 ≠ 0)) = 0 from by decide]
      refine lv_if_ne (tgt := 60) hx hb dX11_make_35 (by decide) (fun c_35 => absurd c_35 (by decide)) (fun c_35 => ?_)
      refine lv_aload_n hx hb dX11_make_38 rfl (lv_at hl 0 rfl) ?_
      refine lv_aload_n hx hb dX11_make_39 rfl (lv_at hl 0 rfl) ?_
      refine lv_iload_n hx hb dX11_make_40 rfl (lv_at hl 1 rfl) ?_
      refine lv_iload_n hx hb dX11_make_41 rfl (lv_at hl 2 rfl) ?_
      refine mq_calli (va_runV (As := [.int (nI j), .int (nI k)]) (rest := [.ref (ad 20 0 0)]) ⟨hx, hb, hml, hown, hts⟩ (c_X11_openFor l G A f_1 ad S X S2 (yThr Y 0) O T j k) (cwV 2 hts gX11_make_X11_openFor rfl rfl rfl (by decide +kernel) ⟨Nat.le_of_ble_eq_true rfl, Nat.le_of_ble_eq_true rfl⟩) (mq_preV hK hZ hS hA hM (q := (RX11, TX11, 4)) h_3 rfl (⟨hR1, hO.thr 0, hj, hk⟩) _) rfl rfl hl.1 rfl (lv_room (Nat.le_of_ble_eq_true rfl)) dX11_make_42 ⟨Nat.le_of_ble_eq_true rfl, Nat.le_of_ble_eq_true rfl⟩) hS (fun r42 g42 H locs p42 hM hS => ?_)
      refine W.widen (k := 0) (n := 0) (Nat.le_of_ble_eq_true rfl) (Nat.le_of_ble_eq_true rfl) ?_
      obtain ⟨rfl, rfl⟩ := p42
      refine lv_if_ne (tgt := 52) hx hb dX11_make_45 (by decide) (fun c_45 => ?_) (fun c_45 => ?_)
      · replace c_45 : ¬ zb (opn S2 j k) = 0 := c_45
        rw [zb_n0] at c_45
        refine lv_iconst (v := 0) hx hb dX11_make_52 (by decide) ?_
        refine lv_iconst (v := 3) hx hb dX11_make_53 (by decide) ?_
        refine mq_calli (va_runV (As := [.int 0, .int 3]) (rest := []) ⟨hx, hb, hml, hown, hts⟩ (c_X11_fails l G A f_1 (ad 20 0 0) false 3 0 (nI (aD S2)) (ad 21 0 0) (ad 23 0 0)) (cwV 2 hts gX11_make_X11_fails rfl rfl rfl (by decide +kernel) ⟨Nat.le_of_ble_eq_true rfl, Nat.le_of_ble_eq_true rfl⟩) (mq_preV hK hZ hS hA hM (q := (RX11, TX11, 4)) h_3 rfl (h_3) _) rfl rfl hl.1 rfl (lv_room (Nat.le_of_ble_eq_true rfl)) dX11_make_54 ⟨Nat.le_of_ble_eq_true rfl, Nat.le_of_ble_eq_true rfl⟩) hS (fun r54 g54 H locs p54 hM hS => ?_)
        refine W.widen (k := 0) (n := 0) (Nat.le_of_ble_eq_true rfl) (Nat.le_of_ble_eq_true rfl) ?_
        obtain ⟨hg, hr9⟩ := p54
        obtain rfl := fl_0 h_3 hg
        rw [hr9, show zb (decide (fT false 0 3 ≠ 0)) = 0 from by decide]
        refine lv_if_eq (tgt := 62) hx hb dX11_make_57 (by decide) (fun c_57 => ?_) (fun c_57 => absurd c_57 (by decide))
        have hcl : (yL Y).2 ≠ 0 := by omega
        have y123_273 := hR1.1 _ _ _ _ (t123 hcl)
        have y24_274 := hR1.1 _ _ _ _ (t24 hcl)
        have y27_275 := hR1.1 _ _ _ _ (t27 (j := j) hj)
        refine lv_aload_n hx hb dX11_make_62 rfl (lv_at hl 0 rfl) ?_
        refine mq_get (ci := 16) (v := .ref (ad 23 0 0)) (C := RX11) (T := TX11) (N := 4) hx hb hts nX11 hown hK hM h_3 rfl 3 (by decide) w1 (fun _ h9 => h9) rfl dX11_make_63 ?_
        refine lv_iload_n hx hb dX11_make_66 rfl (lv_at hl 1 rfl) ?_
        refine mq_callq (va_runV (As := [.int (nI j)]) (rest := []) ⟨hx, hb, hml, hown, hts⟩ (c_Jx4a65c_get_915e3 l G A f_1 (ad 23 0 0) (yL Y).1 (ad 24 0 0) (yL Y).2 (aL S2) j (fun i => ad 27 i 0)) (cwV 1 hts gX11_make_Jx4a65c_get_915e3 rfl rfl rfl (by decide +kernel) ⟨Nat.le_of_ble_eq_true rfl, Nat.le_of_ble_eq_true rfl⟩) (mq_preV hK hZ hS hA hM (q := (RJx4a65c, TJx4a65c, 3)) y123_273 rfl (⟨y123_273, y24_274, hj, hls, by omega⟩) _) rfl rfl hl.1 rfl (lv_room (Nat.le_of_ble_eq_true rfl)) dX11_make_67 ⟨Nat.le_of_ble_eq_true rfl, Nat.le_of_ble_eq_true rfl⟩) hS (fun r67 g67 H locs p67 hM hS => ?_)
        refine W.widen (k := 0) (n := 0) (Nat.le_of_ble_eq_true rfl) (Nat.le_of_ble_eq_true rfl) ?_
        obtain ⟨rfl, rfl⟩ := p67
        refine mq_castG hx hb hown w2 (mq_recv hK hM y27_275 rfl) dX11_make_70 ?_
        refine lv_astore (lv' := [(4, .ref (ad 27 j 0)), (0, .ref (ad 20 0 0)), (1, .int (nI j)), (2, .int (nI k)), (3, .int (nI N))]) hx hb dX11_make_73 hl (by decide) rfl (fun ls hl => ?_)
        refine lv_iload_n hx hb dX11_make_75 rfl (lv_at hl 4 rfl) ?_
        refine lv_istore (lv' := [(5, .int (nI N)), (4, .ref (ad 27 j 0)), (0, .ref (ad 20 0 0)), (1, .int (nI j)), (2, .int (nI k)), (3, .int (nI N))]) hx hb dX11_make_76 hl (by decide) rfl (fun ls hl => ?_)
        have K78 : ∀ (n9 : Nat) (i v : Nat), (4 - i) < n9 → (i ≤ 3) → (v < 1260) → (mkT (lat (lMd (aE S2 j))) 3 N = mkT (lat (lMd (aE S2 j))) (3 - i) v) → ∀ (f9 : mq_F), (∀ y e, f_1 y = some e → f9 y = some e) → ∀ (H : Heap) (locs : List Loc), mq_W G.1 A f9 H → va_S A s.heap H locs → ∀ (ls : Array Slot), lv_has ls 6 [(2, .int (nI k)), (4, .ref (ad 27 j 0)), (5, .int (nI v))] → W p l e (headSpec wsX11_make ({ frames := 12, cells := 6, slots := 820, locals := 230 } : Room)).room s m ([.ref (ad 20 0 0), .int (nI j), .int (nI k), .int (nI N)] : List Value).toArray below meth c H locs (i) ((4 * i)) (MQ below (mq_Qi G A (fun r g => ∃ c9 S9 Y9 ad9, spMake S2 (nI j) (nI k) (nI N) = (c9, r, S9) ∧ WR G g ad9 S X S9 (yThr Y9 (nI c9)) O ∧ mCp S9 Y9 ∧ adK ad ad9)) ([.ref (ad 20 0 0), .int (nI j), .int (nI k), .int (nI N)] : List Value).toArray s 6 820 A) (F0 m 78 ls []) := by
          intro n9
          induction n9 with
          | zero => intro i v hn9; exact absurd hn9 (Nat.not_lt_zero _)
          | succ n9 ih78 =>
            intro i v hn9 hi hv hq0 f9 hk9 H locs hM hS ls hl
            have hR9 := RR.mono hR1 hk9
            have y27_277 := hR9.1 _ _ _ _ (t27 (j := j) hj)
            refine lv_aload hx hb dX11_make_78 (lv_at hl 1 rfl) ?_
            refine lv_iload hx hb dX11_make_80 (lv_at hl 2 rfl) ?_
            refine mq_callq (va_runS (As := [.int (nI v)]) (rest := [.ref (ad 27 j 0)]) ⟨hx, hb, hml, hown, hts⟩ (c_X11_equation l G A f9 v) (va_cwS 1 hts gX11_make_X11_equation rfl rfl rfl (by decide +kernel) ⟨Nat.le_of_ble_eq_true rfl, Nat.le_of_ble_eq_true rfl⟩) (mq_preS hK hZ hS hA hM (hv) _) rfl rfl hl.1 rfl (lv_room (Nat.le_of_ble_eq_true rfl)) dX11_make_82 ⟨by show (i) + 1 ≤ 6; omega, by show ((4 * i)) + 4 ≤ 820; omega⟩) hS (fun r82 g82 H locs p82 hM hS => ?_)
            refine W.widen (k := (i + 1)) (n := ((4 * i) + 4)) (by omega) (by omega) ?_
            obtain ⟨q82, er, hq82, hg82⟩ := p82
            subst er
            have hR8 := RR.mono hR9 (fun y e he => mq_n hg82 he (mq_neN he hq82))
            have h_4 : g82 (ad 27 j 0) = some (.inr (14, [.ref (ad 28 j 0), .ref (ad 32 j 0), va_rf (oMap (lEx (aE S2 j)) (ad 35 j 0)), .int (nI ((exN (lEx (aE S2 j)) (yO Y j)).1)), .int (nI ((exN (lEx (aE S2 j)) (yO Y j)).2.1)), .int (nI ((exN (lEx (aE S2 j)) (yO Y j)).2.2)), va_rf (oMap (lWs (aE S2 j)) (ad 36 j 0)), va_rf (oMap (lWs (aE S2 j)) (ad 37 j 0))])) := mq_n hg82 y27_277 (mq_neN y27_277 hq82)
            have h_5 : g82 q82 = some (.inl (G.2 0, 4, .inl (eqF (ex_eq v)))) := mq_s hg82
            refine mq_calli (va_runS (As := [.ref (ad 27 j 0), .ref q82]) (rest := []) ⟨hx, hb, hml, hown, hts⟩ (c_X11_wasLately l G A g82 ad S X S2 (yThr Y 0) O T j q82 v) (va_cwS 2 hts gX11_make_X11_wasLately rfl rfl rfl (by decide +kernel) ⟨Nat.le_of_ble_eq_true rfl, Nat.le_of_ble_eq_true rfl⟩) (mq_preS hK hZ hS hA hM (⟨hR8, hO.thr 0, hj, h_5, hv⟩) _) rfl rfl hl.1 rfl (lv_room (Nat.le_of_ble_eq_true rfl)) dX11_make_85 ⟨by show (i + 1) + 0 ≤ 6; omega, by show ((4 * i) + 4) + 0 ≤ 820; omega⟩) hS (fun r85 g85 H locs p85 hM hS => ?_)
            refine W.widen (k := (i + 1)) (n := ((4 * i) + 4)) (by omega) (by omega) ?_
            obtain ⟨rfl, rfl⟩ := p85
            refine lv_if_eq (tgt := 104) hx hb dX11_make_88 (by decide) (fun c_88 => ?_) (fun c_88 => ?_)
            · replace c_88 : zb (lat (lMd (aE S2 j)) v) = 0 := c_88
              rw [zb_0] at c_88
              have y32_276 := hR8.1 _ _ _ _ (t32 (j := j) hj)
              have hqv : mkT (lat (lMd (aE S2 j))) 3 N = v := by rw [hq0, mkT_f c_88]
              obtain ⟨-, ⟨-, hmd, -⟩, hmL9⟩ := hle j hj
              have hmc1 := hmc j hj
              refine lv_aload hx hb dX11_make_104 (lv_at hl 1 rfl) ?_
              refine lv_iload hx hb dX11_make_106 (lv_at hl 2 rfl) ?_
              refine mq_callq (va_runS (As := [.int (nI v)]) (rest := [.ref (ad 27 j 0)]) ⟨hx, hb, hml, hown, hts⟩ (c_X11_equation l G A g82 v) (va_cwS 1 hts gX11_make_X11_equation rfl rfl rfl (by decide +kernel) ⟨Nat.le_of_ble_eq_true rfl, Nat.le_of_ble_eq_true rfl⟩) (mq_preS hK hZ hS hA hM (hv) _) rfl rfl hl.1 rfl (lv_room (Nat.le_of_ble_eq_true rfl)) dX11_make_108 ⟨by show (i + 1) + 1 ≤ 6; omega, by show ((4 * i) + 4) + 4 ≤ 820; omega⟩) hS (fun r108 g108 H locs p108 hM hS => ?_)
              refine W.widen (k := (i + 2)) (n := ((4 * i) + 8)) (by omega) (by omega) ?_
              obtain ⟨q108, er, hq108, hg108⟩ := p108
              subst er
              have h_6 : g108 (ad 27 j 0) = some (.inr (14, [.ref (ad 28 j 0), .ref (ad 32 j 0), va_rf (oMap (lEx (aE S2 j)) (ad 35 j 0)), .int (nI ((exN (lEx (aE S2 j)) (yO Y j)).1)), .int (nI ((exN (lEx (aE S2 j)) (yO Y j)).2.1)), .int (nI ((exN (lEx (aE S2 j)) (yO Y j)).2.2)), va_rf (oMap (lWs (aE S2 j)) (ad 36 j 0)), va_rf (oMap (lWs (aE S2 j)) (ad 37 j 0))])) := mq_n hg108 h_4 (mq_neN h_4 hq108)
              have h_7 : g108 q82 = some (.inl (G.2 0, 4, .inl (eqF (ex_eq v)))) := mq_n hg108 h_5 (mq_neN h_5 hq108)
              have h_8 : g108 (ad 32 j 0) = some (.inr (4, [.int ((yM Y j).1), .ref (lsD G (yM Y j).2 (ad 33 j 0)), .int (nI ((lMd (aE S2 j)).length))])) := mq_n hg108 y32_276 (mq_neN y32_276 hq108)
              have h_9 : g108 q108 = some (.inl (G.2 0, 4, .inl (eqF (ex_eq v)))) := mq_s hg108
              refine mq_put (ci := 14) (v := .ref q108) (ty := .array (.int)) (C := RX9) (T := TX9) (N := 8) (fs' := [.ref (ad 28 j 0), .ref (ad 32 j 0), .ref q108, .int (nI ((exN (lEx (aE S2 j)) (yO Y j)).1)), .int (nI ((exN (lEx (aE S2 j)) (yO Y j)).2.1)), .int (nI ((exN (lEx (aE S2 j)) (yO Y j)).2.2)), va_rf (oMap (lWs (aE S2 j)) (ad 36 j 0)), va_rf (oMap (lWs (aE S2 j)) (ad 37 j 0))]) hx hb hts nX9 tyX9 tyX9_ok nmX9 hown hK hM hS h_6 rfl 2 (by decide) w3 (fun _ h9 => h9) rfl (by decide +kernel) rfl rfl (Nat.le_of_ble_eq_true rfl) dX11_make_111 rfl (fun f_10 H locs e_11 hM hS => ?_)
              have h_12 : f_10 q82 = some (.inl (G.2 0, 4, .inl (eqF (ex_eq v)))) := mq_n e_11 h_7 (Ne.symm (mq_neN y27_277 hq82))
              have h_13 : f_10 (ad 32 j 0) = some (.inr (4, [.int ((yM Y j).1), .ref (lsD G (yM Y j).2 (ad 33 j 0)), .int (nI ((lMd (aE S2 j)).length))])) := mq_n e_11 h_8 (mq_neO h_8 h_6 (by decide))
              have h_14 : f_10 q108 = some (.inl (G.2 0, 4, .inl (eqF (ex_eq v)))) := mq_n e_11 h_9 (Ne.symm (mq_neN h_4 hq108))
              have h_15 : f_10 (ad 27 j 0) = some (.inr (14, [.ref (ad 28 j 0), .ref (ad 32 j 0), .ref q108, .int (nI ((exN (lEx (aE S2 j)) (yO Y j)).1)), .int (nI ((exN (lEx (aE S2 j)) (yO Y j)).2.1)), .int (nI ((exN (lEx (aE S2 j)) (yO Y j)).2.2)), va_rf (oMap (lWs (aE S2 j)) (ad 36 j 0)), va_rf (oMap (lWs (aE S2 j)) (ad 37 j 0))])) := mq_s e_11
              refine lv_aload hx hb dX11_make_114 (lv_at hl 1 rfl) ?_
              refine mq_get (ci := 14) (v := .ref (ad 32 j 0)) (C := RX9) (T := TX9) (N := 8) hx hb hts nX9 hown hK hM h_15 rfl 1 (by decide) w4 (fun _ h9 => h9) rfl dX11_make_116 ?_
              refine lv_aload hx hb dX11_make_119 (lv_at hl 1 rfl) ?_
              refine mq_get (ci := 14) (v := .ref q108) (C := RX9) (T := TX9) (N := 8) hx hb hts nX9 hown hK hM h_15 rfl 2 (by decide) w3 (fun _ h9 => h9) rfl dX11_make_121 ?_
              refine mq_calli (va_runV (As := [.ref q108]) (rest := []) ⟨hx, hb, hml, hown, hts⟩ (c_Jx4a65c_add_9ea2d l G A f_10 (ad 32 j 0) q108 (yM Y j).1 (yM Y j).2 (ad 33 j 0) (lMd (aE S2 j)).length (fun i => ad 34 j i) 800) (cwV 1 hts gX11_make_Jx4a65c_add_9ea2d rfl rfl rfl (by decide +kernel) ⟨Nat.le_of_ble_eq_true rfl, Nat.le_of_ble_eq_true rfl⟩) (mq_preV hK hZ hS hA hM (q := (RJx4a65c, TJx4a65c, 3)) h_13 rfl (⟨h_13, fun q => mq_n e_11 (mq_n hg108 (hR8.1 _ _ _ _ (t33 q hj)) (mq_neN (hR8.1 _ _ _ _ (t33 q hj)) hq108)) (RR.ne hR8 (t33 q hj) (t27 hj) rfl (by simp)), hmc1.1, by omega, hmc1.2, fun q => (nc_le (by rw [← q]; omega)).2, fun i hi => Or.inr (Or.inl ⟨_, _, mq_n e_11 (mq_n hg108 (hR8.1 _ _ _ _ (t34 (k := i) hj hi)) (mq_neN (hR8.1 _ _ _ _ (t34 (k := i) hj hi)) hq108)) (RR.ne hR8 (t34 (k := i) hj hi) (t27 hj) rfl (by simp))⟩), Or.inr (Or.inl ⟨_, _, h_14⟩)⟩) _) rfl rfl hl.1 rfl (lv_room (Nat.le_of_ble_eq_true rfl)) dX11_make_124 ⟨by show (i + 2) + 1 ≤ 6; omega, by show ((4 * i) + 8) + 800 ≤ 820; omega⟩) hS (fun r124 g124 H locs p124 hM hS => ?_)
              refine W.widen (k := (i + 3)) (n := ((4 * i) + 808)) (by omega) (by omega) ?_
              obtain ⟨ha124, rfl⟩ := p124
              have z27 := addP_old ha124 h_15 (RR.ne hR8 (t27 hj) (t32 hj) rfl (by simp)) (fun q => RR.ne hR8 (t27 hj) (t33 (Y := yThr Y 0) (j := j) (show (yM Y j).2 ≠ 0 by omega) hj) rfl (by simp))
              have e27z := e_11
              refine lv_pop hx hb dX11_make_127 rfl ?_
              refine lv_aload hx hb dX11_make_128 (lv_at hl 1 rfl) ?_
              refine lv_iload_n hx hb dX11_make_130 rfl (lv_at hl 0 rfl) ?_
              refine mq_put (ci := 14) (v := .int (nI k)) (ty := .int) (C := RX9) (T := TX9) (N := 8) (fs' := [.ref (ad 28 j 0), .ref (ad 32 j 0), .ref q108, .int (nI k), .int (nI ((exN (lEx (aE S2 j)) (yO Y j)).2.1)), .int (nI ((exN (lEx (aE S2 j)) (yO Y j)).2.2)), va_rf (oMap (lWs (aE S2 j)) (ad 36 j 0)), va_rf (oMap (lWs (aE S2 j)) (ad 37 j 0))]) hx hb hts nX9 tyX9 tyX9_ok nmX9 hown hK hM hS z27 rfl 3 (by decide) w5 (fun _ h9 => h9) rfl (by decide +kernel) rfl rfl (Nat.le_of_ble_eq_true rfl) dX11_make_131 rfl (fun f_16 H locs e_17 hM hS => ?_)
              have h_18 : f_16 (ad 27 j 0) = some (.inr (14, [.ref (ad 28 j 0), .ref (ad 32 j 0), .ref q108, .int (nI k), .int (nI ((exN (lEx (aE S2 j)) (yO Y j)).2.1)), .int (nI ((exN (lEx (aE S2 j)) (yO Y j)).2.2)), va_rf (oMap (lWs (aE S2 j)) (ad 36 j 0)), va_rf (oMap (lWs (aE S2 j)) (ad 37 j 0))])) := mq_s e_17
              refine lv_aload hx hb dX11_make_134 (lv_at hl 1 rfl) ?_
              refine lv_iconst (v := 0) hx hb dX11_make_136 (by decide) ?_
              refine mq_put (ci := 14) (v := .int 0) (ty := .int) (C := RX9) (T := TX9) (N := 8) (fs' := [.ref (ad 28 j 0), .ref (ad 32 j 0), .ref q108, .int (nI k), .int 0, .int (nI ((exN (lEx (aE S2 j)) (yO Y j)).2.2)), va_rf (oMap (lWs (aE S2 j)) (ad 36 j 0)), va_rf (oMap (lWs (aE S2 j)) (ad 37 j 0))]) hx hb hts nX9 tyX9 tyX9_ok nmX9 hown hK hM hS h_18 rfl 4 (by decide) w6 (fun _ h9 => h9) rfl (by decide +kernel) rfl rfl (Nat.le_of_ble_eq_true rfl) dX11_make_137 rfl (fun f_19 H locs e_20 hM hS => ?_)
              have h_21 : f_19 (ad 27 j 0) = some (.inr (14, [.ref (ad 28 j 0), .ref (ad 32 j 0), .ref q108, .int (nI k), .int 0, .int (nI ((exN (lEx (aE S2 j)) (yO Y j)).2.2)), va_rf (oMap (lWs (aE S2 j)) (ad 36 j 0)), va_rf (oMap (lWs (aE S2 j)) (ad 37 j 0))])) := mq_s e_20
              refine lv_aload hx hb dX11_make_140 (lv_at hl 1 rfl) ?_
              refine lv_iconst (v := 0) hx hb dX11_make_142 (by decide) ?_
              refine mq_put (ci := 14) (v := .int 0) (ty := .int) (C := RX9) (T := TX9) (N := 8) (fs' := [.ref (ad 28 j 0), .ref (ad 32 j 0), .ref q108, .int (nI k), .int 0, .int 0, va_rf (oMap (lWs (aE S2 j)) (ad 36 j 0)), va_rf (oMap (lWs (aE S2 j)) (ad 37 j 0))]) hx hb hts nX9 tyX9 tyX9_ok nmX9 hown hK hM hS h_21 rfl 5 (by decide) w7 (fun _ h9 => h9) rfl (by decide +kernel) rfl rfl (Nat.le_of_ble_eq_true rfl) dX11_make_143 rfl (fun f_22 H locs e_23 hM hS => ?_)
              have h_24 : f_22 (ad 27 j 0) = some (.inr (14, [.ref (ad 28 j 0), .ref (ad 32 j 0), .ref q108, .int (nI k), .int 0, .int 0, va_rf (oMap (lWs (aE S2 j)) (ad 36 j 0)), va_rf (oMap (lWs (aE S2 j)) (ad 37 j 0))])) := mq_s e_23
              obtain ⟨r9, cap9, hlc9, hR7⟩ := WR_mkR (g := f_22) (k := k) hR8 hj hmc1 (by omega) hq108 hg108 e27z ha124 (by rw [e_23, e_20, e_17]; (try simp only [mq_uu]); rfl)
              refine lv_iload hx hb dX11_make_146 (lv_at hl 2 rfl) ?_
              refine W.widen (k := 6) (n := 820) (by omega) (by omega) ?_
              exact mq_iret (v := nI v) hx hb hr hlocks hM hS (⟨0, nsMake S2 j k v, yMn Y j ((yM Y j).1 + 1, cap9) (yO Y j), _, (spLS_y hj hk hl4 hn).trans ((if_pos (vI_nI hN (by decide))).trans ((if_pos c_45).trans (by rw [nI_clamp (by omega), hqv]))), hR7, mCp_md hO.2 (by show lcO ((lMd (aE S2 j)) ++ [v]).length cap9; rw [show ((lMd (aE S2 j)) ++ [v]).length = (lMd (aE S2 j)).length + 1 by simp]; exact hlc9), ⟨rfl, rfl, rfl, rfl⟩⟩) dX11_make_148
            · replace c_88 : ¬ zb (lat (lMd (aE S2 j)) v) = 0 := c_88
              rw [zb_n0] at c_88
              have hi3 : i < 3 := Nat.lt_of_le_of_ne hi (fun q => by rw [q] at hq0; have h9 := mkT_stop (md := (lMd (aE S2 j))) hN; rw [hq0] at h9; rw [show mkT (lat (lMd (aE S2 j))) (3 - 3) v = v from rfl, c_88] at h9; cases h9)
              refine lv_iload hx hb dX11_make_91 (lv_at hl 2 rfl) ?_
              refine lv_iconst (v := 1) hx hb dX11_make_93 (by decide) ?_
              refine lv_iadd hx hb dX11_make_94 ?_
              rw [show (nI v) + 1 = nI (v + 1) from nI_add _ _]
              refine lv_sipush (v := 1260) hx hb dX11_make_95 (by decide) ?_
              refine lv_irem hx hb dX11_make_98 (by decide) ?_
              rw [show (nI (v + 1)) - (nI (v + 1)) / 1260 * 1260 = nI ((v + 1) % 1260) from pk_rem (a := v + 1) (d := 1260) (by omega) (by omega) (by omega)]
              refine lv_istore (lv' := [(5, .int (nI ((v + 1) % 1260))), (2, .int (nI k)), (4, .ref (ad 27 j 0))]) hx hb dX11_make_99 hl (by decide) rfl (fun ls hl => ?_)
              refine lv_goto (tgt := 78) hx hb dX11_make_101 (by decide) ?_
              exact W.widen (by first | omega | (simp only [List.length_nil]; omega)) (by first | omega | (simp only [List.length_nil]; omega)) (ih78 (i + 1) ((v + 1) % 1260) (by omega) (by omega) (Nat.mod_lt _ (by decide)) (by rw [hq0, show 3 - i = 3 - (i + 1) + 1 by omega, mkT_t c_88]) _  (fun y e he => mq_n hg82 (hk9 y e he) (mq_neN (hk9 y e he) hq82)) _ _ hM hS _ (lv_sub hl [1, 2, 0] rfl))
        exact W.widen (by first | omega | (simp only [List.length_nil]; omega)) (by first | omega | (simp only [List.length_nil]; omega)) (K78 _ 0 N (Nat.lt_succ_self _) (Nat.zero_le _) (hN) (rfl) _  (fun y e he => he) _ _ hM hS _ (lv_sub hl [4, 1, 0] rfl))
      · replace c_45 : zb (opn S2 j k) = 0 := c_45
        rw [zb_0] at c_45
        refine lv_iconst (v := 1) hx hb dX11_make_48 (by decide) ?_
        refine lv_goto (tgt := 53) hx hb dX11_make_49 (by decide) ?_
        refine lv_iconst (v := 3) hx hb dX11_make_53 (by decide) ?_
        refine mq_calli (va_runV (As := [.int 1, .int 3]) (rest := []) ⟨hx, hb, hml, hown, hts⟩ (c_X11_fails l G A f_1 (ad 20 0 0) true 3 0 (nI (aD S2)) (ad 21 0 0) (ad 23 0 0)) (cwV 2 hts gX11_make_X11_fails rfl rfl rfl (by decide +kernel) ⟨Nat.le_of_ble_eq_true rfl, Nat.le_of_ble_eq_true rfl⟩) (mq_preV hK hZ hS hA hM (q := (RX11, TX11, 4)) h_3 rfl (h_3) _) rfl rfl hl.1 rfl (lv_room (Nat.le_of_ble_eq_true rfl)) dX11_make_54 ⟨Nat.le_of_ble_eq_true rfl, Nat.le_of_ble_eq_true rfl⟩) hS (fun r54 g54 H locs p54 hM hS => ?_)
        refine W.widen (k := 0) (n := 0) (Nat.le_of_ble_eq_true rfl) (Nat.le_of_ble_eq_true rfl) ?_
        obtain ⟨hg, hr9⟩ := p54
        rw [hr9, show zb (decide (fT true 0 3 ≠ 0)) = 1 from by decide]
        refine lv_if_eq (tgt := 62) hx hb dX11_make_57 (by decide) (fun c_57 => absurd c_57 (by decide)) (fun c_57 => ?_)
        refine lv_iconst (v := 0) hx hb dX11_make_60 (by decide) ?_
        refine W.widen (k := 6) (n := 820) (Nat.le_of_ble_eq_true rfl) (Nat.le_of_ble_eq_true rfl) ?_
        exact mq_iret (v := 0) hx hb hr hlocks hM hS (⟨3, S2, Y, ad, (spLS_y hj hk hl4 hn).trans ((if_pos (vI_nI hN (by decide))).trans (if_neg (by rw [c_45]; decide))), (by have q9 := WR_yt hR1 hg; exact q9), hO.2, adK_id⟩) dX11_make_61
    · replace c_23 : zb (vI uc 1260) = 0 := c_23
      rw [zb_0] at c_23
      refine lv_iconst (v := 1) hx hb dX11_make_26 (by decide) ?_
      refine lv_goto (tgt := 31) hx hb dX11_make_27 (by decide) ?_
      refine lv_iconst (v := 2) hx hb dX11_make_31 (by decide) ?_
      refine mq_calli (va_runV (As := [.int 1, .int 2]) (rest := []) ⟨hx, hb, hml, hown, hts⟩ (c_X11_fails l G A f_1 (ad 20 0 0) true 2 0 (nI (aD S2)) (ad 21 0 0) (ad 23 0 0)) (cwV 2 hts gX11_make_X11_fails rfl rfl rfl (by decide +kernel) ⟨Nat.le_of_ble_eq_true rfl, Nat.le_of_ble_eq_true rfl⟩) (mq_preV hK hZ hS hA hM (q := (RX11, TX11, 4)) h_3 rfl (h_3) _) rfl rfl hl.1 rfl (lv_room (Nat.le_of_ble_eq_true rfl)) dX11_make_32 ⟨Nat.le_of_ble_eq_true rfl, Nat.le_of_ble_eq_true rfl⟩) hS (fun r32 g32 H locs p32 hM hS => ?_)
      refine W.widen (k := 0) (n := 0) (Nat.le_of_ble_eq_true rfl) (Nat.le_of_ble_eq_true rfl) ?_
      obtain ⟨hg, hr9⟩ := p32
      rw [hr9, show zb (decide (fT true 0 2 ≠ 0)) = 1 from by decide]
      refine lv_if_ne (tgt := 60) hx hb dX11_make_35 (by decide) (fun c_35 => ?_) (fun c_35 => absurd c_35 (by decide))
      refine lv_iconst (v := 0) hx hb dX11_make_60 (by decide) ?_
      refine W.widen (k := 6) (n := 820) (Nat.le_of_ble_eq_true rfl) (Nat.le_of_ble_eq_true rfl) ?_
      exact mq_iret (v := 0) hx hb hr hlocks hM hS (⟨2, S2, Y, ad, (spLS_y hj hk hl4 hn).trans (if_neg (by rw [c_23]; decide)), (by have q9 := WR_yt hR1 hg; exact q9), hO.2, adK_id⟩) dX11_make_61
