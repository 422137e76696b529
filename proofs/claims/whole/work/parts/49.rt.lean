/-! THE REFERENCE: addLearner -/
abbrev yLn (Y : MX) (l : Nat) (v : Int32 × Nat) : MX := (yT Y, yS Y, v, (fun j k => if j = l then (0, 0) else yA Y j k), fU (yM Y) l (0, 0), fU (yO Y) l (0, 0, 0))
theorem nI_00 : nI 0 = (0 : Int32) := rfl
theorem nI_20 : nI 200 = (200 : Int32) := rfl
theorem du_00 : du 0 = (-1 : Int32) := rfl
def nAR (ad : AD) (l q kA mL : Nat) (ma wo : Nat → Nat) : AD := fun a j k => match a with
  | 27 => if j = l ∧ k = 0 then q else ad 27 j k
  | 28 => if j = l ∧ k = 0 then kA else ad 28 j k
  | 29 => if j = l then ma k else ad 29 j k
  | 30 => if j = l then wo k else ad 30 j k
  | 32 => if j = l ∧ k = 0 then mL else ad 32 j k
  | a => ad a j k
def nCR (G : mq_G) (ad : AD) (S : AT) (X : CX) (S2 : AT) (Y : MX) (O : OX) (kA mL : Nat) (ma wo : Nat → Nat) : CC := fun a j k => match a with
  | 27 => if j = aL S2 ∧ k = 0 then some (.inr (14, [.ref kA, .ref mL, .null, .int 0, .int 0, .int 0, .null, .null])) else cT G ad S X S2 Y O 27 j k
  | 28 => if j = aL S2 ∧ k = 0 then some (cRf (G.2 7) 10 (rf_of 10 ma)) else cT G ad S X S2 Y O 28 j k
  | 29 => if j = aL S2 then (if k < 10 then some (cK0 (wo k)) else none) else cT G ad S X S2 Y O 29 j k
  | 30 => if j = aL S2 then (if k < 10 then some (cLs 0 (sE G) 0) else none) else cT G ad S X S2 Y O 30 j k
  | 32 => if j = aL S2 ∧ k = 0 then some (cLs 0 (sE G) 0) else cT G ad S X S2 Y O 32 j k
  | a => cT G ad S X S2 Y O a j k

set_option maxHeartbeats 2000000 in
theorem cT_alR {G : mq_G} {ad : AD} {S : AT} {X : CX} {S2 : AT} {Y : MX} {O : OX} {q kA mL r cap : Nat} {ma wo : Nat → Nat} {mc : Int32} (hc : cap ≠ 0) : cU (cU (nCR G ad S X S2 Y O kA mL ma wo) 24 0 0 (cRf (G.2 8) cap (rf_of (aL S2 + 1) (fun i => if i = aL S2 then q else ad 27 i 0)))) 23 0 0 (cLs mc r (aL S2 + 1)) = cT G (adU (nAR ad (aL S2) q kA mL ma wo) 24 0 0 r) S X (nsLearner S2) (yLn Y (aL S2) (mc, cap)) O := by
  funext a j k
  exact (match a with
    | 0 => by first | rfl | (simp [aN, aL, aD, aS, aM, aE, sTop, sSk, sMa, sLe, xW, xLn, xOl, xB, xSo, xR, xK, sW, sRi, sXp, lEx, lWs, lMd, nCR, nAR, nsLearner, yLn, yT, yS, yL, yA, yM, yO, cU, cT, adU, fU, fU2]; done)
    | 1 => by first | rfl | (simp [aN, aL, aD, aS, aM, aE, sTop, sSk, sMa, sLe, xW, xLn, xOl, xB, xSo, xR, xK, sW, sRi, sXp, lEx, lWs, lMd, nCR, nAR, nsLearner, yLn, yT, yS, yL, yA, yM, yO, cU, cT, adU, fU, fU2]; done)
    | 2 => by first | rfl | (simp [aN, aL, aD, aS, aM, aE, sTop, sSk, sMa, sLe, xW, xLn, xOl, xB, xSo, xR, xK, sW, sRi, sXp, lEx, lWs, lMd, nCR, nAR, nsLearner, yLn, yT, yS, yL, yA, yM, yO, cU, cT, adU, fU, fU2]; done)
    | 3 => by first | rfl | (simp [aN, aL, aD, aS, aM, aE, sTop, sSk, sMa, sLe, xW, xLn, xOl, xB, xSo, xR, xK, sW, sRi, sXp, lEx, lWs, lMd, nCR, nAR, nsLearner, yLn, yT, yS, yL, yA, yM, yO, cU, cT, adU, fU, fU2]; done)
    | 4 => by first | rfl | (simp [aN, aL, aD, aS, aM, aE, sTop, sSk, sMa, sLe, xW, xLn, xOl, xB, xSo, xR, xK, sW, sRi, sXp, lEx, lWs, lMd, nCR, nAR, nsLearner, yLn, yT, yS, yL, yA, yM, yO, cU, cT, adU, fU, fU2]; done)
    | 5 => by first | rfl | (simp [aN, aL, aD, aS, aM, aE, sTop, sSk, sMa, sLe, xW, xLn, xOl, xB, xSo, xR, xK, sW, sRi, sXp, lEx, lWs, lMd, nCR, nAR, nsLearner, yLn, yT, yS, yL, yA, yM, yO, cU, cT, adU, fU, fU2]; done)
    | 6 => by first | rfl | (simp [aN, aL, aD, aS, aM, aE, sTop, sSk, sMa, sLe, xW, xLn, xOl, xB, xSo, xR, xK, sW, sRi, sXp, lEx, lWs, lMd, nCR, nAR, nsLearner, yLn, yT, yS, yL, yA, yM, yO, cU, cT, adU, fU, fU2]; done)
    | 7 => by first | rfl | (simp [aN, aL, aD, aS, aM, aE, sTop, sSk, sMa, sLe, xW, xLn, xOl, xB, xSo, xR, xK, sW, sRi, sXp, lEx, lWs, lMd, nCR, nAR, nsLearner, yLn, yT, yS, yL, yA, yM, yO, cU, cT, adU, fU, fU2]; done)
    | 8 => by first | rfl | (simp [aN, aL, aD, aS, aM, aE, sTop, sSk, sMa, sLe, xW, xLn, xOl, xB, xSo, xR, xK, sW, sRi, sXp, lEx, lWs, lMd, nCR, nAR, nsLearner, yLn, yT, yS, yL, yA, yM, yO, cU, cT, adU, fU, fU2]; done)
    | 9 => by first | rfl | (simp [aN, aL, aD, aS, aM, aE, sTop, sSk, sMa, sLe, xW, xLn, xOl, xB, xSo, xR, xK, sW, sRi, sXp, lEx, lWs, lMd, nCR, nAR, nsLearner, yLn, yT, yS, yL, yA, yM, yO, cU, cT, adU, fU, fU2]; done)
    | 10 => by first | rfl | (simp [aN, aL, aD, aS, aM, aE, sTop, sSk, sMa, sLe, xW, xLn, xOl, xB, xSo, xR, xK, sW, sRi, sXp, lEx, lWs, lMd, nCR, nAR, nsLearner, yLn, yT, yS, yL, yA, yM, yO, cU, cT, adU, fU, fU2]; done)
    | 11 => by first | rfl | (simp [aN, aL, aD, aS, aM, aE, sTop, sSk, sMa, sLe, xW, xLn, xOl, xB, xSo, xR, xK, sW, sRi, sXp, lEx, lWs, lMd, nCR, nAR, nsLearner, yLn, yT, yS, yL, yA, yM, yO, cU, cT, adU, fU, fU2]; done)
    | 12 => by first | rfl | (simp [aN, aL, aD, aS, aM, aE, sTop, sSk, sMa, sLe, xW, xLn, xOl, xB, xSo, xR, xK, sW, sRi, sXp, lEx, lWs, lMd, nCR, nAR, nsLearner, yLn, yT, yS, yL, yA, yM, yO, cU, cT, adU, fU, fU2]; done)
    | 13 => by first | rfl | (simp [aN, aL, aD, aS, aM, aE, sTop, sSk, sMa, sLe, xW, xLn, xOl, xB, xSo, xR, xK, sW, sRi, sXp, lEx, lWs, lMd, nCR, nAR, nsLearner, yLn, yT, yS, yL, yA, yM, yO, cU, cT, adU, fU, fU2]; done)
    | 14 => by first | rfl | (simp [aN, aL, aD, aS, aM, aE, sTop, sSk, sMa, sLe, xW, xLn, xOl, xB, xSo, xR, xK, sW, sRi, sXp, lEx, lWs, lMd, nCR, nAR, nsLearner, yLn, yT, yS, yL, yA, yM, yO, cU, cT, adU, fU, fU2]; done)
    | 15 => by first | rfl | (simp [aN, aL, aD, aS, aM, aE, sTop, sSk, sMa, sLe, xW, xLn, xOl, xB, xSo, xR, xK, sW, sRi, sXp, lEx, lWs, lMd, nCR, nAR, nsLearner, yLn, yT, yS, yL, yA, yM, yO, cU, cT, adU, fU, fU2]; done)
    | 16 => by first | rfl | (simp [aN, aL, aD, aS, aM, aE, sTop, sSk, sMa, sLe, xW, xLn, xOl, xB, xSo, xR, xK, sW, sRi, sXp, lEx, lWs, lMd, nCR, nAR, nsLearner, yLn, yT, yS, yL, yA, yM, yO, cU, cT, adU, fU, fU2]; done)
    | 17 => by first | rfl | (simp [aN, aL, aD, aS, aM, aE, sTop, sSk, sMa, sLe, xW, xLn, xOl, xB, xSo, xR, xK, sW, sRi, sXp, lEx, lWs, lMd, nCR, nAR, nsLearner, yLn, yT, yS, yL, yA, yM, yO, cU, cT, adU, fU, fU2]; done)
    | 18 => by first | rfl | (simp [aN, aL, aD, aS, aM, aE, sTop, sSk, sMa, sLe, xW, xLn, xOl, xB, xSo, xR, xK, sW, sRi, sXp, lEx, lWs, lMd, nCR, nAR, nsLearner, yLn, yT, yS, yL, yA, yM, yO, cU, cT, adU, fU, fU2]; done)
    | 19 => by first | rfl | (simp [aN, aL, aD, aS, aM, aE, sTop, sSk, sMa, sLe, xW, xLn, xOl, xB, xSo, xR, xK, sW, sRi, sXp, lEx, lWs, lMd, nCR, nAR, nsLearner, yLn, yT, yS, yL, yA, yM, yO, cU, cT, adU, fU, fU2]; done)
    | 20 => by first | rfl | (simp [aN, aL, aD, aS, aM, aE, sTop, sSk, sMa, sLe, xW, xLn, xOl, xB, xSo, xR, xK, sW, sRi, sXp, lEx, lWs, lMd, nCR, nAR, nsLearner, yLn, yT, yS, yL, yA, yM, yO, cU, cT, adU, fU, fU2]; done)
    | 21 => by first | rfl | (simp [aN, aL, aD, aS, aM, aE, sTop, sSk, sMa, sLe, xW, xLn, xOl, xB, xSo, xR, xK, sW, sRi, sXp, lEx, lWs, lMd, nCR, nAR, nsLearner, yLn, yT, yS, yL, yA, yM, yO, cU, cT, adU, fU, fU2]; done)
    | 22 => by first | rfl | (simp [aN, aL, aD, aS, aM, aE, sTop, sSk, sMa, sLe, xW, xLn, xOl, xB, xSo, xR, xK, sW, sRi, sXp, lEx, lWs, lMd, nCR, nAR, nsLearner, yLn, yT, yS, yL, yA, yM, yO, cU, cT, adU, fU, fU2]; done)
    | 23 => by
        by_cases h : j = 0 ∧ k = 0
        · obtain ⟨rfl, rfl⟩ := h
          show _ = some (cLs mc (lsD G cap (adU (nAR ad (aL S2) q kA mL ma wo) 24 0 0 r 24 0 0)) (aL S2 + 1))
          rw [lsD_1 hc, adU_s]; rfl
        · simp [aN, aL, aD, aS, aM, aE, sTop, sSk, sMa, sLe, lEx, lWs, lMd, cU, cT, adU, fU, fU2, yT, yS, yL, yA, yM, yO, yAn, yMn, oMap, nCR, nAR, nsLearner, yLn, ma0, mOd, mTo, mAn, mOp, mRo, mDu, exN, va_rf, lsD, nI_00, nI_20, du_00, zb_f, h]
    | 24 => by
        by_cases h : j = 0 ∧ k = 0
        · obtain ⟨rfl, rfl⟩ := h
          have e1 : (fun i => if i = aL S2 then q else ad 27 i 0) = (fun i => adU (nAR ad (aL S2) q kA mL ma wo) 24 0 0 r 27 i 0) := by
            funext i; simp [adU, nAR]
          show _ = (if cap ≠ 0 ∧ 0 = 0 ∧ 0 = 0 then some (cRf (G.2 8) cap (rf_of (aL S2 + 1) (fun i => adU (nAR ad (aL S2) q kA mL ma wo) 24 0 0 r 27 i 0))) else none)
          rw [if_pos ⟨hc, rfl, rfl⟩, ← e1]
          simp [cU]
        · simp [aN, aL, aD, aS, aM, aE, sTop, sSk, sMa, sLe, lEx, lWs, lMd, cU, cT, adU, fU, fU2, yT, yS, yL, yA, yM, yO, yAn, yMn, oMap, nCR, nAR, nsLearner, yLn, ma0, mOd, mTo, mAn, mOp, mRo, mDu, exN, va_rf, lsD, nI_00, nI_20, du_00, zb_f, h]
    | 25 => by first | rfl | (simp [aN, aL, aD, aS, aM, aE, sTop, sSk, sMa, sLe, xW, xLn, xOl, xB, xSo, xR, xK, sW, sRi, sXp, lEx, lWs, lMd, nCR, nAR, nsLearner, yLn, yT, yS, yL, yA, yM, yO, cU, cT, adU, fU, fU2]; done)
    | 26 => by first | rfl | (simp [aN, aL, aD, aS, aM, aE, sTop, sSk, sMa, sLe, xW, xLn, xOl, xB, xSo, xR, xK, sW, sRi, sXp, lEx, lWs, lMd, nCR, nAR, nsLearner, yLn, yT, yS, yL, yA, yM, yO, cU, cT, adU, fU, fU2]; done)
    | 27 => by
        by_cases h : j = S2.1.2.1
        · subst h; by_cases h2 : k = 0 <;> by_cases h5 : k < 10 <;> simp [aN, aL, aD, aS, aM, aE, sTop, sSk, sMa, sLe, lEx, lWs, lMd, cU, cT, adU, fU, fU2, yT, yS, yL, yA, yM, yO, yAn, yMn, oMap, nCR, nAR, nsLearner, yLn, ma0, mOd, mTo, mAn, mOp, mRo, mDu, exN, va_rf, lsD, nI_00, nI_20, du_00, zb_f, h2, h5]
        · by_cases h3 : j < S2.1.2.1
          · have h4 : j < S2.1.2.1 + 1 := by omega
            simp [aN, aL, aD, aS, aM, aE, sTop, sSk, sMa, sLe, lEx, lWs, lMd, cU, cT, adU, fU, fU2, yT, yS, yL, yA, yM, yO, yAn, yMn, oMap, nCR, nAR, nsLearner, yLn, ma0, mOd, mTo, mAn, mOp, mRo, mDu, exN, va_rf, lsD, nI_00, nI_20, du_00, zb_f, h, h3, h4]
          · have h4 : ¬ j < S2.1.2.1 + 1 := by omega
            simp [aN, aL, aD, aS, aM, aE, sTop, sSk, sMa, sLe, lEx, lWs, lMd, cU, cT, adU, fU, fU2, yT, yS, yL, yA, yM, yO, yAn, yMn, oMap, nCR, nAR, nsLearner, yLn, ma0, mOd, mTo, mAn, mOp, mRo, mDu, exN, va_rf, lsD, nI_00, nI_20, du_00, zb_f, h, h3, h4]
    | 28 => by
        by_cases h : j = S2.1.2.1
        · subst h; by_cases h2 : k = 0 <;> by_cases h5 : k < 10 <;> simp [aN, aL, aD, aS, aM, aE, sTop, sSk, sMa, sLe, lEx, lWs, lMd, cU, cT, adU, fU, fU2, yT, yS, yL, yA, yM, yO, yAn, yMn, oMap, nCR, nAR, nsLearner, yLn, ma0, mOd, mTo, mAn, mOp, mRo, mDu, exN, va_rf, lsD, nI_00, nI_20, du_00, zb_f, h2, h5]
        · by_cases h3 : j < S2.1.2.1
          · have h4 : j < S2.1.2.1 + 1 := by omega
            simp [aN, aL, aD, aS, aM, aE, sTop, sSk, sMa, sLe, lEx, lWs, lMd, cU, cT, adU, fU, fU2, yT, yS, yL, yA, yM, yO, yAn, yMn, oMap, nCR, nAR, nsLearner, yLn, ma0, mOd, mTo, mAn, mOp, mRo, mDu, exN, va_rf, lsD, nI_00, nI_20, du_00, zb_f, h, h3, h4]
          · have h4 : ¬ j < S2.1.2.1 + 1 := by omega
            simp [aN, aL, aD, aS, aM, aE, sTop, sSk, sMa, sLe, lEx, lWs, lMd, cU, cT, adU, fU, fU2, yT, yS, yL, yA, yM, yO, yAn, yMn, oMap, nCR, nAR, nsLearner, yLn, ma0, mOd, mTo, mAn, mOp, mRo, mDu, exN, va_rf, lsD, nI_00, nI_20, du_00, zb_f, h, h3, h4]
    | 29 => by
        by_cases h : j = S2.1.2.1
        · subst h; by_cases h2 : k = 0 <;> by_cases h5 : k < 10 <;> simp [aN, aL, aD, aS, aM, aE, sTop, sSk, sMa, sLe, lEx, lWs, lMd, cU, cT, adU, fU, fU2, yT, yS, yL, yA, yM, yO, yAn, yMn, oMap, nCR, nAR, nsLearner, yLn, ma0, mOd, mTo, mAn, mOp, mRo, mDu, exN, va_rf, lsD, nI_00, nI_20, du_00, zb_f, h2, h5]
        · by_cases h3 : j < S2.1.2.1
          · have h4 : j < S2.1.2.1 + 1 := by omega
            simp [aN, aL, aD, aS, aM, aE, sTop, sSk, sMa, sLe, lEx, lWs, lMd, cU, cT, adU, fU, fU2, yT, yS, yL, yA, yM, yO, yAn, yMn, oMap, nCR, nAR, nsLearner, yLn, ma0, mOd, mTo, mAn, mOp, mRo, mDu, exN, va_rf, lsD, nI_00, nI_20, du_00, zb_f, h, h3, h4]
          · have h4 : ¬ j < S2.1.2.1 + 1 := by omega
            simp [aN, aL, aD, aS, aM, aE, sTop, sSk, sMa, sLe, lEx, lWs, lMd, cU, cT, adU, fU, fU2, yT, yS, yL, yA, yM, yO, yAn, yMn, oMap, nCR, nAR, nsLearner, yLn, ma0, mOd, mTo, mAn, mOp, mRo, mDu, exN, va_rf, lsD, nI_00, nI_20, du_00, zb_f, h, h3, h4]
    | 30 => by
        by_cases h : j = S2.1.2.1
        · subst h; by_cases h2 : k = 0 <;> by_cases h5 : k < 10 <;> simp [aN, aL, aD, aS, aM, aE, sTop, sSk, sMa, sLe, lEx, lWs, lMd, cU, cT, adU, fU, fU2, yT, yS, yL, yA, yM, yO, yAn, yMn, oMap, nCR, nAR, nsLearner, yLn, ma0, mOd, mTo, mAn, mOp, mRo, mDu, exN, va_rf, lsD, nI_00, nI_20, du_00, zb_f, h2, h5]
        · by_cases h3 : j < S2.1.2.1
          · have h4 : j < S2.1.2.1 + 1 := by omega
            simp [aN, aL, aD, aS, aM, aE, sTop, sSk, sMa, sLe, lEx, lWs, lMd, cU, cT, adU, fU, fU2, yT, yS, yL, yA, yM, yO, yAn, yMn, oMap, nCR, nAR, nsLearner, yLn, ma0, mOd, mTo, mAn, mOp, mRo, mDu, exN, va_rf, lsD, nI_00, nI_20, du_00, zb_f, h, h3, h4]
          · have h4 : ¬ j < S2.1.2.1 + 1 := by omega
            simp [aN, aL, aD, aS, aM, aE, sTop, sSk, sMa, sLe, lEx, lWs, lMd, cU, cT, adU, fU, fU2, yT, yS, yL, yA, yM, yO, yAn, yMn, oMap, nCR, nAR, nsLearner, yLn, ma0, mOd, mTo, mAn, mOp, mRo, mDu, exN, va_rf, lsD, nI_00, nI_20, du_00, zb_f, h, h3, h4]
    | 31 => by
        by_cases h : j = S2.1.2.1
        · subst h; by_cases h2 : k = 0 <;> by_cases h5 : k < 10 <;> simp [aN, aL, aD, aS, aM, aE, sTop, sSk, sMa, sLe, lEx, lWs, lMd, cU, cT, adU, fU, fU2, yT, yS, yL, yA, yM, yO, yAn, yMn, oMap, nCR, nAR, nsLearner, yLn, ma0, mOd, mTo, mAn, mOp, mRo, mDu, exN, va_rf, lsD, nI_00, nI_20, du_00, zb_f, h2, h5]
        · by_cases h3 : j < S2.1.2.1
          · have h4 : j < S2.1.2.1 + 1 := by omega
            simp [aN, aL, aD, aS, aM, aE, sTop, sSk, sMa, sLe, lEx, lWs, lMd, cU, cT, adU, fU, fU2, yT, yS, yL, yA, yM, yO, yAn, yMn, oMap, nCR, nAR, nsLearner, yLn, ma0, mOd, mTo, mAn, mOp, mRo, mDu, exN, va_rf, lsD, nI_00, nI_20, du_00, zb_f, h, h3, h4]
          · have h4 : ¬ j < S2.1.2.1 + 1 := by omega
            simp [aN, aL, aD, aS, aM, aE, sTop, sSk, sMa, sLe, lEx, lWs, lMd, cU, cT, adU, fU, fU2, yT, yS, yL, yA, yM, yO, yAn, yMn, oMap, nCR, nAR, nsLearner, yLn, ma0, mOd, mTo, mAn, mOp, mRo, mDu, exN, va_rf, lsD, nI_00, nI_20, du_00, zb_f, h, h3, h4]
    | 32 => by
        by_cases h : j = S2.1.2.1
        · subst h; by_cases h2 : k = 0 <;> by_cases h5 : k < 10 <;> simp [aN, aL, aD, aS, aM, aE, sTop, sSk, sMa, sLe, lEx, lWs, lMd, cU, cT, adU, fU, fU2, yT, yS, yL, yA, yM, yO, yAn, yMn, oMap, nCR, nAR, nsLearner, yLn, ma0, mOd, mTo, mAn, mOp, mRo, mDu, exN, va_rf, lsD, nI_00, nI_20, du_00, zb_f, h2, h5]
        · by_cases h3 : j < S2.1.2.1
          · have h4 : j < S2.1.2.1 + 1 := by omega
            simp [aN, aL, aD, aS, aM, aE, sTop, sSk, sMa, sLe, lEx, lWs, lMd, cU, cT, adU, fU, fU2, yT, yS, yL, yA, yM, yO, yAn, yMn, oMap, nCR, nAR, nsLearner, yLn, ma0, mOd, mTo, mAn, mOp, mRo, mDu, exN, va_rf, lsD, nI_00, nI_20, du_00, zb_f, h, h3, h4]
          · have h4 : ¬ j < S2.1.2.1 + 1 := by omega
            simp [aN, aL, aD, aS, aM, aE, sTop, sSk, sMa, sLe, lEx, lWs, lMd, cU, cT, adU, fU, fU2, yT, yS, yL, yA, yM, yO, yAn, yMn, oMap, nCR, nAR, nsLearner, yLn, ma0, mOd, mTo, mAn, mOp, mRo, mDu, exN, va_rf, lsD, nI_00, nI_20, du_00, zb_f, h, h3, h4]
    | 33 => by
        by_cases h : j = S2.1.2.1
        · subst h; by_cases h2 : k = 0 <;> by_cases h5 : k < 10 <;> simp [aN, aL, aD, aS, aM, aE, sTop, sSk, sMa, sLe, lEx, lWs, lMd, cU, cT, adU, fU, fU2, yT, yS, yL, yA, yM, yO, yAn, yMn, oMap, nCR, nAR, nsLearner, yLn, ma0, mOd, mTo, mAn, mOp, mRo, mDu, exN, va_rf, lsD, nI_00, nI_20, du_00, zb_f, h2, h5]
        · by_cases h3 : j < S2.1.2.1
          · have h4 : j < S2.1.2.1 + 1 := by omega
            simp [aN, aL, aD, aS, aM, aE, sTop, sSk, sMa, sLe, lEx, lWs, lMd, cU, cT, adU, fU, fU2, yT, yS, yL, yA, yM, yO, yAn, yMn, oMap, nCR, nAR, nsLearner, yLn, ma0, mOd, mTo, mAn, mOp, mRo, mDu, exN, va_rf, lsD, nI_00, nI_20, du_00, zb_f, h, h3, h4]
          · have h4 : ¬ j < S2.1.2.1 + 1 := by omega
            simp [aN, aL, aD, aS, aM, aE, sTop, sSk, sMa, sLe, lEx, lWs, lMd, cU, cT, adU, fU, fU2, yT, yS, yL, yA, yM, yO, yAn, yMn, oMap, nCR, nAR, nsLearner, yLn, ma0, mOd, mTo, mAn, mOp, mRo, mDu, exN, va_rf, lsD, nI_00, nI_20, du_00, zb_f, h, h3, h4]
    | 34 => by
        by_cases h : j = S2.1.2.1
        · subst h; by_cases h2 : k = 0 <;> by_cases h5 : k < 10 <;> simp [aN, aL, aD, aS, aM, aE, sTop, sSk, sMa, sLe, lEx, lWs, lMd, cU, cT, adU, fU, fU2, yT, yS, yL, yA, yM, yO, yAn, yMn, oMap, nCR, nAR, nsLearner, yLn, ma0, mOd, mTo, mAn, mOp, mRo, mDu, exN, va_rf, lsD, nI_00, nI_20, du_00, zb_f, h2, h5]
        · by_cases h3 : j < S2.1.2.1
          · have h4 : j < S2.1.2.1 + 1 := by omega
            simp [aN, aL, aD, aS, aM, aE, sTop, sSk, sMa, sLe, lEx, lWs, lMd, cU, cT, adU, fU, fU2, yT, yS, yL, yA, yM, yO, yAn, yMn, oMap, nCR, nAR, nsLearner, yLn, ma0, mOd, mTo, mAn, mOp, mRo, mDu, exN, va_rf, lsD, nI_00, nI_20, du_00, zb_f, h, h3, h4]
          · have h4 : ¬ j < S2.1.2.1 + 1 := by omega
            simp [aN, aL, aD, aS, aM, aE, sTop, sSk, sMa, sLe, lEx, lWs, lMd, cU, cT, adU, fU, fU2, yT, yS, yL, yA, yM, yO, yAn, yMn, oMap, nCR, nAR, nsLearner, yLn, ma0, mOd, mTo, mAn, mOp, mRo, mDu, exN, va_rf, lsD, nI_00, nI_20, du_00, zb_f, h, h3, h4]
    | 35 => by
        by_cases h : j = S2.1.2.1
        · subst h; by_cases h2 : k = 0 <;> by_cases h5 : k < 10 <;> simp [aN, aL, aD, aS, aM, aE, sTop, sSk, sMa, sLe, lEx, lWs, lMd, cU, cT, adU, fU, fU2, yT, yS, yL, yA, yM, yO, yAn, yMn, oMap, nCR, nAR, nsLearner, yLn, ma0, mOd, mTo, mAn, mOp, mRo, mDu, exN, va_rf, lsD, nI_00, nI_20, du_00, zb_f, h2, h5]
        · by_cases h3 : j < S2.1.2.1
          · have h4 : j < S2.1.2.1 + 1 := by omega
            simp [aN, aL, aD, aS, aM, aE, sTop, sSk, sMa, sLe, lEx, lWs, lMd, cU, cT, adU, fU, fU2, yT, yS, yL, yA, yM, yO, yAn, yMn, oMap, nCR, nAR, nsLearner, yLn, ma0, mOd, mTo, mAn, mOp, mRo, mDu, exN, va_rf, lsD, nI_00, nI_20, du_00, zb_f, h, h3, h4]
          · have h4 : ¬ j < S2.1.2.1 + 1 := by omega
            simp [aN, aL, aD, aS, aM, aE, sTop, sSk, sMa, sLe, lEx, lWs, lMd, cU, cT, adU, fU, fU2, yT, yS, yL, yA, yM, yO, yAn, yMn, oMap, nCR, nAR, nsLearner, yLn, ma0, mOd, mTo, mAn, mOp, mRo, mDu, exN, va_rf, lsD, nI_00, nI_20, du_00, zb_f, h, h3, h4]
    | 36 => by
        by_cases h : j = S2.1.2.1
        · subst h; by_cases h2 : k = 0 <;> by_cases h5 : k < 10 <;> simp [aN, aL, aD, aS, aM, aE, sTop, sSk, sMa, sLe, lEx, lWs, lMd, cU, cT, adU, fU, fU2, yT, yS, yL, yA, yM, yO, yAn, yMn, oMap, nCR, nAR, nsLearner, yLn, ma0, mOd, mTo, mAn, mOp, mRo, mDu, exN, va_rf, lsD, nI_00, nI_20, du_00, zb_f, h2, h5]
        · by_cases h3 : j < S2.1.2.1
          · have h4 : j < S2.1.2.1 + 1 := by omega
            simp [aN, aL, aD, aS, aM, aE, sTop, sSk, sMa, sLe, lEx, lWs, lMd, cU, cT, adU, fU, fU2, yT, yS, yL, yA, yM, yO, yAn, yMn, oMap, nCR, nAR, nsLearner, yLn, ma0, mOd, mTo, mAn, mOp, mRo, mDu, exN, va_rf, lsD, nI_00, nI_20, du_00, zb_f, h, h3, h4]
          · have h4 : ¬ j < S2.1.2.1 + 1 := by omega
            simp [aN, aL, aD, aS, aM, aE, sTop, sSk, sMa, sLe, lEx, lWs, lMd, cU, cT, adU, fU, fU2, yT, yS, yL, yA, yM, yO, yAn, yMn, oMap, nCR, nAR, nsLearner, yLn, ma0, mOd, mTo, mAn, mOp, mRo, mDu, exN, va_rf, lsD, nI_00, nI_20, du_00, zb_f, h, h3, h4]
    | 37 => by
        by_cases h : j = S2.1.2.1
        · subst h; by_cases h2 : k = 0 <;> by_cases h5 : k < 10 <;> simp [aN, aL, aD, aS, aM, aE, sTop, sSk, sMa, sLe, lEx, lWs, lMd, cU, cT, adU, fU, fU2, yT, yS, yL, yA, yM, yO, yAn, yMn, oMap, nCR, nAR, nsLearner, yLn, ma0, mOd, mTo, mAn, mOp, mRo, mDu, exN, va_rf, lsD, nI_00, nI_20, du_00, zb_f, h2, h5]
        · by_cases h3 : j < S2.1.2.1
          · have h4 : j < S2.1.2.1 + 1 := by omega
            simp [aN, aL, aD, aS, aM, aE, sTop, sSk, sMa, sLe, lEx, lWs, lMd, cU, cT, adU, fU, fU2, yT, yS, yL, yA, yM, yO, yAn, yMn, oMap, nCR, nAR, nsLearner, yLn, ma0, mOd, mTo, mAn, mOp, mRo, mDu, exN, va_rf, lsD, nI_00, nI_20, du_00, zb_f, h, h3, h4]
          · have h4 : ¬ j < S2.1.2.1 + 1 := by omega
            simp [aN, aL, aD, aS, aM, aE, sTop, sSk, sMa, sLe, lEx, lWs, lMd, cU, cT, adU, fU, fU2, yT, yS, yL, yA, yM, yO, yAn, yMn, oMap, nCR, nAR, nsLearner, yLn, ma0, mOd, mTo, mAn, mOp, mRo, mDu, exN, va_rf, lsD, nI_00, nI_20, du_00, zb_f, h, h3, h4]
    | 38 => by first | rfl | (simp [aN, aL, aD, aS, aM, aE, sTop, sSk, sMa, sLe, xW, xLn, xOl, xB, xSo, xR, xK, sW, sRi, sXp, lEx, lWs, lMd, nCR, nAR, nsLearner, yLn, yT, yS, yL, yA, yM, yO, cU, cT, adU, fU, fU2]; done)
    | 39 => by first | rfl | (simp [aN, aL, aD, aS, aM, aE, sTop, sSk, sMa, sLe, xW, xLn, xOl, xB, xSo, xR, xK, sW, sRi, sXp, lEx, lWs, lMd, nCR, nAR, nsLearner, yLn, yT, yS, yL, yA, yM, yO, cU, cT, adU, fU, fU2]; done)
    | n + 40 => by first | rfl | simp [cU, cT])

theorem WR_alR {G : mq_G} {f g : mq_F} {ad : AD} {S : AT} {X : CX} {S2 : AT} {Y : MX} {O : OX} {f1 f2 : mq_F} {q kA mL : Nat} {ma wo : Nat → Nat} {mc : Int32} {z : va_E} (hR : WR G f ad S X S2 Y O) (hn : aL S2 ≤ (yL Y).2 ∧ ((yL Y).2 = 0 ∨ (yL Y).2 = 10)) (hl : aL S2 < 4) (hq : f q = none) (h1 : f1 = mq_up f q z) (hm : lk_made G f1 f2 q kA mL ma wo) (ha : addP G f2 g (ad 23 0 0) q mc (yL Y).2 (ad 24 0 0) (aL S2) (fun i => ad 27 i 0)) :
    ∃ r cap, (aL S2 + 1 ≤ cap ∧ (cap = 0 ∨ cap = 10)) ∧ WR G g (adU (nAR ad (aL S2) q kA mL ma wo) 24 0 0 r) S X (nsLearner S2) (yLn Y (aL S2) (mc, cap)) O := by
  have hf1 : ∀ y, f1 y = none → f y = none := fun y hy => mq_fr h1 hy
  have hk : ∀ y e, f y = some e → f2 y = some e := fun y e hy => hm.1.2.2 y e (mq_neN hy hq) (mq_n h1 hy (mq_neN hy hq))
  have r1 : RR f2 (nAR ad (aL S2) q kA mL ma wo) (nCR G ad S X S2 Y O kA mL ma wo) := by
    refine RR.ext (fun a j k => j = aL S2 ∧ ((a = 27 ∧ k = 0) ∨ (a = 28 ∧ k = 0) ∨ (a = 29 ∧ True) ∨ (a = 30 ∧ True) ∨ (a = 32 ∧ k = 0))) hR hk (fun a j k hN => ?_) (fun a j k e hN he => ?_) (fun a j k a' j' k9 e e' hN hN' he he' hw => ?_) (fun a j k => Decidable.em _)
    · match a, hN with
      | 27, hN => exact ⟨if_neg (fun w => hN ⟨w.1, Or.inl ⟨rfl, w.2⟩⟩), if_neg (fun w => hN ⟨w.1, Or.inl ⟨rfl, w.2⟩⟩)⟩
      | 28, hN => exact ⟨if_neg (fun w => hN ⟨w.1, Or.inr (Or.inl ⟨rfl, w.2⟩)⟩), if_neg (fun w => hN ⟨w.1, Or.inr (Or.inl ⟨rfl, w.2⟩)⟩)⟩
      | 29, hN => exact ⟨if_neg (fun w => hN ⟨w, Or.inr (Or.inr (Or.inl ⟨rfl, trivial⟩))⟩), if_neg (fun w => hN ⟨w, Or.inr (Or.inr (Or.inl ⟨rfl, trivial⟩))⟩)⟩
      | 30, hN => exact ⟨if_neg (fun w => hN ⟨w, Or.inr (Or.inr (Or.inr (Or.inl ⟨rfl, trivial⟩)))⟩), if_neg (fun w => hN ⟨w, Or.inr (Or.inr (Or.inr (Or.inl ⟨rfl, trivial⟩)))⟩)⟩
      | 32, hN => exact ⟨if_neg (fun w => hN ⟨w.1, Or.inr (Or.inr (Or.inr (Or.inr (⟨rfl, w.2⟩))))⟩), if_neg (fun w => hN ⟨w.1, Or.inr (Or.inr (Or.inr (Or.inr (⟨rfl, w.2⟩))))⟩)⟩
      | 0, hN => exact ⟨rfl, rfl⟩
      | 1, hN => exact ⟨rfl, rfl⟩
      | 2, hN => exact ⟨rfl, rfl⟩
      | 3, hN => exact ⟨rfl, rfl⟩
      | 4, hN => exact ⟨rfl, rfl⟩
      | 5, hN => exact ⟨rfl, rfl⟩
      | 6, hN => exact ⟨rfl, rfl⟩
      | 7, hN => exact ⟨rfl, rfl⟩
      | 8, hN => exact ⟨rfl, rfl⟩
      | 9, hN => exact ⟨rfl, rfl⟩
      | 10, hN => exact ⟨rfl, rfl⟩
      | 11, hN => exact ⟨rfl, rfl⟩
      | 12, hN => exact ⟨rfl, rfl⟩
      | 13, hN => exact ⟨rfl, rfl⟩
      | 14, hN => exact ⟨rfl, rfl⟩
      | 15, hN => exact ⟨rfl, rfl⟩
      | 16, hN => exact ⟨rfl, rfl⟩
      | 17, hN => exact ⟨rfl, rfl⟩
      | 18, hN => exact ⟨rfl, rfl⟩
      | 19, hN => exact ⟨rfl, rfl⟩
      | 20, hN => exact ⟨rfl, rfl⟩
      | 21, hN => exact ⟨rfl, rfl⟩
      | 22, hN => exact ⟨rfl, rfl⟩
      | 23, hN => exact ⟨rfl, rfl⟩
      | 24, hN => exact ⟨rfl, rfl⟩
      | 25, hN => exact ⟨rfl, rfl⟩
      | 26, hN => exact ⟨rfl, rfl⟩
      | 31, hN => exact ⟨rfl, rfl⟩
      | 33, hN => exact ⟨rfl, rfl⟩
      | 34, hN => exact ⟨rfl, rfl⟩
      | 35, hN => exact ⟨rfl, rfl⟩
      | 36, hN => exact ⟨rfl, rfl⟩
      | 37, hN => exact ⟨rfl, rfl⟩
      | 38, hN => exact ⟨rfl, rfl⟩
      | 39, hN => exact ⟨rfl, rfl⟩
      | n + 40, hN => exact ⟨rfl, rfl⟩
    · rcases hN with ⟨rfl, (⟨rfl, rfl⟩ | ⟨rfl, rfl⟩ | ⟨rfl, -⟩ | ⟨rfl, -⟩ | ⟨rfl, rfl⟩)⟩
      · have e1 : nAR ad (aL S2) q kA mL ma wo 27 (aL S2) 0 = q := by simp [nAR]
        have e2 : nCR G ad S X S2 Y O kA mL ma wo 27 (aL S2) 0 = some (.inr (14, [.ref kA, .ref mL, .null, .int 0, .int 0, .int 0, .null, .null])) := by simp [nCR]
        rw [e2] at he; cases he; rw [e1]
        exact ⟨hm.2.2.2.1, hq⟩
      · have e1 : nAR ad (aL S2) q kA mL ma wo 28 (aL S2) 0 = kA := by simp [nAR]
        have e2 : nCR G ad S X S2 Y O kA mL ma wo 28 (aL S2) 0 = some (cRf (G.2 7) 10 (rf_of 10 ma)) := by simp [nCR]
        rw [e2] at he; cases he; rw [e1]
        exact ⟨hm.2.2.2.2.1, hf1 _ hm.2.1⟩
      · have hk1 : k < 10 := by
          by_cases q7 : k < 10
          · exact q7
          · rw [show nCR G ad S X S2 Y O kA mL ma wo 29 (aL S2) k = none by simp [nCR, q7]] at he; cases he
        have e1 : nAR ad (aL S2) q kA mL ma wo 29 (aL S2) k = ma k := by simp [nAR]
        have e2 : nCR G ad S X S2 Y O kA mL ma wo 29 (aL S2) k = some (cK0 (wo k)) := by simp [nCR, hk1]
        rw [e2] at he; cases he; rw [e1]
        exact ⟨(hm.1.1 k hk1).1, hf1 _ (hm.1.1 k hk1).2.2.1⟩
      · have hk1 : k < 10 := by
          by_cases q7 : k < 10
          · exact q7
          · rw [show nCR G ad S X S2 Y O kA mL ma wo 30 (aL S2) k = none by simp [nCR, q7]] at he; cases he
        have e1 : nAR ad (aL S2) q kA mL ma wo 30 (aL S2) k = wo k := by simp [nAR]
        have e2 : nCR G ad S X S2 Y O kA mL ma wo 30 (aL S2) k = some (cLs 0 (sE G) 0) := by simp [nCR, hk1]
        rw [e2] at he; cases he; rw [e1]
        exact ⟨(hm.1.1 k hk1).2.1, hf1 _ (hm.1.1 k hk1).2.2.2⟩
      · have e1 : nAR ad (aL S2) q kA mL ma wo 32 (aL S2) 0 = mL := by simp [nAR]
        have e2 : nCR G ad S X S2 Y O kA mL ma wo 32 (aL S2) 0 = some (cLs 0 (sE G) 0) := by simp [nCR]
        rw [e2] at he; cases he; rw [e1]
        exact ⟨hm.2.2.2.2.2.1, hf1 _ hm.2.2.1⟩
    · rcases hN with ⟨rfl, (⟨rfl, rfl⟩ | ⟨rfl, rfl⟩ | ⟨rfl, -⟩ | ⟨rfl, -⟩ | ⟨rfl, rfl⟩)⟩ <;> rcases hN' with ⟨rfl, (⟨rfl, rfl⟩ | ⟨rfl, rfl⟩ | ⟨rfl, -⟩ | ⟨rfl, -⟩ | ⟨rfl, rfl⟩)⟩
      · exact ⟨rfl, rfl, rfl⟩
      · have e1 : nAR ad (aL S2) q kA mL ma wo 27 (aL S2) 0 = q := by simp [nAR]
        have e2 : nAR ad (aL S2) q kA mL ma wo 28 (aL S2) 0 = kA := by simp [nAR]
        rw [e1, e2] at hw
        exact absurd hw (mq_neA hm.2.2.2.1 hm.2.2.2.2.1)
      · have k2 : k9 < 10 := by
          by_cases q7 : k9 < 10
          · exact q7
          · rw [show nCR G ad S X S2 Y O kA mL ma wo 29 (aL S2) k9 = none by simp [nCR, q7]] at he'; cases he'
        have e1 : nAR ad (aL S2) q kA mL ma wo 27 (aL S2) 0 = q := by simp [nAR]
        have e2 : nAR ad (aL S2) q kA mL ma wo 29 (aL S2) k9 = ma k9 := by simp [nAR]
        rw [e1, e2] at hw
        exact absurd hw (mq_neO hm.2.2.2.1 (hm.1.1 k9 k2).1 (by decide))
      · have k2 : k9 < 10 := by
          by_cases q7 : k9 < 10
          · exact q7
          · rw [show nCR G ad S X S2 Y O kA mL ma wo 30 (aL S2) k9 = none by simp [nCR, q7]] at he'; cases he'
        have e1 : nAR ad (aL S2) q kA mL ma wo 27 (aL S2) 0 = q := by simp [nAR]
        have e2 : nAR ad (aL S2) q kA mL ma wo 30 (aL S2) k9 = wo k9 := by simp [nAR]
        rw [e1, e2] at hw
        exact absurd hw (mq_neO hm.2.2.2.1 (hm.1.1 k9 k2).2.1 (by decide))
      · have e1 : nAR ad (aL S2) q kA mL ma wo 27 (aL S2) 0 = q := by simp [nAR]
        have e2 : nAR ad (aL S2) q kA mL ma wo 32 (aL S2) 0 = mL := by simp [nAR]
        rw [e1, e2] at hw
        exact absurd hw (mq_neO hm.2.2.2.1 hm.2.2.2.2.2.1 (by decide))
      · have e1 : nAR ad (aL S2) q kA mL ma wo 28 (aL S2) 0 = kA := by simp [nAR]
        have e2 : nAR ad (aL S2) q kA mL ma wo 27 (aL S2) 0 = q := by simp [nAR]
        rw [e1, e2] at hw
        exact absurd hw (mq_neB hm.2.2.2.2.1 hm.2.2.2.1)
      · exact ⟨rfl, rfl, rfl⟩
      · have k2 : k9 < 10 := by
          by_cases q7 : k9 < 10
          · exact q7
          · rw [show nCR G ad S X S2 Y O kA mL ma wo 29 (aL S2) k9 = none by simp [nCR, q7]] at he'; cases he'
        have e1 : nAR ad (aL S2) q kA mL ma wo 28 (aL S2) 0 = kA := by simp [nAR]
        have e2 : nAR ad (aL S2) q kA mL ma wo 29 (aL S2) k9 = ma k9 := by simp [nAR]
        rw [e1, e2] at hw
        exact absurd hw (mq_neB hm.2.2.2.2.1 (hm.1.1 k9 k2).1)
      · have k2 : k9 < 10 := by
          by_cases q7 : k9 < 10
          · exact q7
          · rw [show nCR G ad S X S2 Y O kA mL ma wo 30 (aL S2) k9 = none by simp [nCR, q7]] at he'; cases he'
        have e1 : nAR ad (aL S2) q kA mL ma wo 28 (aL S2) 0 = kA := by simp [nAR]
        have e2 : nAR ad (aL S2) q kA mL ma wo 30 (aL S2) k9 = wo k9 := by simp [nAR]
        rw [e1, e2] at hw
        exact absurd hw (mq_neB hm.2.2.2.2.1 (hm.1.1 k9 k2).2.1)
      · have e1 : nAR ad (aL S2) q kA mL ma wo 28 (aL S2) 0 = kA := by simp [nAR]
        have e2 : nAR ad (aL S2) q kA mL ma wo 32 (aL S2) 0 = mL := by simp [nAR]
        rw [e1, e2] at hw
        exact absurd hw (mq_neB hm.2.2.2.2.1 hm.2.2.2.2.2.1)
      · have k1 : k < 10 := by
          by_cases q7 : k < 10
          · exact q7
          · rw [show nCR G ad S X S2 Y O kA mL ma wo 29 (aL S2) k = none by simp [nCR, q7]] at he; cases he
        have e1 : nAR ad (aL S2) q kA mL ma wo 29 (aL S2) k = ma k := by simp [nAR]
        have e2 : nAR ad (aL S2) q kA mL ma wo 27 (aL S2) 0 = q := by simp [nAR]
        rw [e1, e2] at hw
        exact absurd hw (mq_neO (hm.1.1 k k1).1 hm.2.2.2.1 (by decide))
      · have k1 : k < 10 := by
          by_cases q7 : k < 10
          · exact q7
          · rw [show nCR G ad S X S2 Y O kA mL ma wo 29 (aL S2) k = none by simp [nCR, q7]] at he; cases he
        have e1 : nAR ad (aL S2) q kA mL ma wo 29 (aL S2) k = ma k := by simp [nAR]
        have e2 : nAR ad (aL S2) q kA mL ma wo 28 (aL S2) 0 = kA := by simp [nAR]
        rw [e1, e2] at hw
        exact absurd hw (mq_neA (hm.1.1 k k1).1 hm.2.2.2.2.1)
      · have k1 : k < 10 := by
          by_cases q7 : k < 10
          · exact q7
          · rw [show nCR G ad S X S2 Y O kA mL ma wo 29 (aL S2) k = none by simp [nCR, q7]] at he; cases he
        have k2 : k9 < 10 := by
          by_cases q7 : k9 < 10
          · exact q7
          · rw [show nCR G ad S X S2 Y O kA mL ma wo 29 (aL S2) k9 = none by simp [nCR, q7]] at he'; cases he'
        have e1 : nAR ad (aL S2) q kA mL ma wo 29 (aL S2) k = ma k := by simp [nAR]
        have e2 : nAR ad (aL S2) q kA mL ma wo 29 (aL S2) k9 = ma k9 := by simp [nAR]
        rw [e1, e2] at hw
        exact ⟨rfl, rfl, (hm.1.2.1 k k9 k1 k2).1 hw⟩
      · have k1 : k < 10 := by
          by_cases q7 : k < 10
          · exact q7
          · rw [show nCR G ad S X S2 Y O kA mL ma wo 29 (aL S2) k = none by simp [nCR, q7]] at he; cases he
        have k2 : k9 < 10 := by
          by_cases q7 : k9 < 10
          · exact q7
          · rw [show nCR G ad S X S2 Y O kA mL ma wo 30 (aL S2) k9 = none by simp [nCR, q7]] at he'; cases he'
        have e1 : nAR ad (aL S2) q kA mL ma wo 29 (aL S2) k = ma k := by simp [nAR]
        have e2 : nAR ad (aL S2) q kA mL ma wo 30 (aL S2) k9 = wo k9 := by simp [nAR]
        rw [e1, e2] at hw
        exact absurd hw (mq_neO (hm.1.1 k k1).1 (hm.1.1 k9 k2).2.1 (by decide))
      · have k1 : k < 10 := by
          by_cases q7 : k < 10
          · exact q7
          · rw [show nCR G ad S X S2 Y O kA mL ma wo 29 (aL S2) k = none by simp [nCR, q7]] at he; cases he
        have e1 : nAR ad (aL S2) q kA mL ma wo 29 (aL S2) k = ma k := by simp [nAR]
        have e2 : nAR ad (aL S2) q kA mL ma wo 32 (aL S2) 0 = mL := by simp [nAR]
        rw [e1, e2] at hw
        exact absurd hw (mq_neO (hm.1.1 k k1).1 hm.2.2.2.2.2.1 (by decide))
      · have k1 : k < 10 := by
          by_cases q7 : k < 10
          · exact q7
          · rw [show nCR G ad S X S2 Y O kA mL ma wo 30 (aL S2) k = none by simp [nCR, q7]] at he; cases he
        have e1 : nAR ad (aL S2) q kA mL ma wo 30 (aL S2) k = wo k := by simp [nAR]
        have e2 : nAR ad (aL S2) q kA mL ma wo 27 (aL S2) 0 = q := by simp [nAR]
        rw [e1, e2] at hw
        exact absurd hw (mq_neO (hm.1.1 k k1).2.1 hm.2.2.2.1 (by decide))
      · have k1 : k < 10 := by
          by_cases q7 : k < 10
          · exact q7
          · rw [show nCR G ad S X S2 Y O kA mL ma wo 30 (aL S2) k = none by simp [nCR, q7]] at he; cases he
        have e1 : nAR ad (aL S2) q kA mL ma wo 30 (aL S2) k = wo k := by simp [nAR]
        have e2 : nAR ad (aL S2) q kA mL ma wo 28 (aL S2) 0 = kA := by simp [nAR]
        rw [e1, e2] at hw
        exact absurd hw (mq_neA (hm.1.1 k k1).2.1 hm.2.2.2.2.1)
      · have k1 : k < 10 := by
          by_cases q7 : k < 10
          · exact q7
          · rw [show nCR G ad S X S2 Y O kA mL ma wo 30 (aL S2) k = none by simp [nCR, q7]] at he; cases he
        have k2 : k9 < 10 := by
          by_cases q7 : k9 < 10
          · exact q7
          · rw [show nCR G ad S X S2 Y O kA mL ma wo 29 (aL S2) k9 = none by simp [nCR, q7]] at he'; cases he'
        have e1 : nAR ad (aL S2) q kA mL ma wo 30 (aL S2) k = wo k := by simp [nAR]
        have e2 : nAR ad (aL S2) q kA mL ma wo 29 (aL S2) k9 = ma k9 := by simp [nAR]
        rw [e1, e2] at hw
        exact absurd hw (mq_neO (hm.1.1 k k1).2.1 (hm.1.1 k9 k2).1 (by decide))
      · have k1 : k < 10 := by
          by_cases q7 : k < 10
          · exact q7
          · rw [show nCR G ad S X S2 Y O kA mL ma wo 30 (aL S2) k = none by simp [nCR, q7]] at he; cases he
        have k2 : k9 < 10 := by
          by_cases q7 : k9 < 10
          · exact q7
          · rw [show nCR G ad S X S2 Y O kA mL ma wo 30 (aL S2) k9 = none by simp [nCR, q7]] at he'; cases he'
        have e1 : nAR ad (aL S2) q kA mL ma wo 30 (aL S2) k = wo k := by simp [nAR]
        have e2 : nAR ad (aL S2) q kA mL ma wo 30 (aL S2) k9 = wo k9 := by simp [nAR]
        rw [e1, e2] at hw
        exact ⟨rfl, rfl, (hm.1.2.1 k k9 k1 k2).2.1 hw⟩
      · have k1 : k < 10 := by
          by_cases q7 : k < 10
          · exact q7
          · rw [show nCR G ad S X S2 Y O kA mL ma wo 30 (aL S2) k = none by simp [nCR, q7]] at he; cases he
        have e1 : nAR ad (aL S2) q kA mL ma wo 30 (aL S2) k = wo k := by simp [nAR]
        have e2 : nAR ad (aL S2) q kA mL ma wo 32 (aL S2) 0 = mL := by simp [nAR]
        rw [e1, e2] at hw
        exact absurd hw (hm.2.2.2.2.2.2 k k1)
      · have e1 : nAR ad (aL S2) q kA mL ma wo 32 (aL S2) 0 = mL := by simp [nAR]
        have e2 : nAR ad (aL S2) q kA mL ma wo 27 (aL S2) 0 = q := by simp [nAR]
        rw [e1, e2] at hw
        exact absurd hw (mq_neO hm.2.2.2.2.2.1 hm.2.2.2.1 (by decide))
      · have e1 : nAR ad (aL S2) q kA mL ma wo 32 (aL S2) 0 = mL := by simp [nAR]
        have e2 : nAR ad (aL S2) q kA mL ma wo 28 (aL S2) 0 = kA := by simp [nAR]
        rw [e1, e2] at hw
        exact absurd hw (mq_neA hm.2.2.2.2.2.1 hm.2.2.2.2.1)
      · have k2 : k9 < 10 := by
          by_cases q7 : k9 < 10
          · exact q7
          · rw [show nCR G ad S X S2 Y O kA mL ma wo 29 (aL S2) k9 = none by simp [nCR, q7]] at he'; cases he'
        have e1 : nAR ad (aL S2) q kA mL ma wo 32 (aL S2) 0 = mL := by simp [nAR]
        have e2 : nAR ad (aL S2) q kA mL ma wo 29 (aL S2) k9 = ma k9 := by simp [nAR]
        rw [e1, e2] at hw
        exact absurd hw (mq_neO hm.2.2.2.2.2.1 (hm.1.1 k9 k2).1 (by decide))
      · have k2 : k9 < 10 := by
          by_cases q7 : k9 < 10
          · exact q7
          · rw [show nCR G ad S X S2 Y O kA mL ma wo 30 (aL S2) k9 = none by simp [nCR, q7]] at he'; cases he'
        have e1 : nAR ad (aL S2) q kA mL ma wo 32 (aL S2) 0 = mL := by simp [nAR]
        have e2 : nAR ad (aL S2) q kA mL ma wo 30 (aL S2) k9 = wo k9 := by simp [nAR]
        rw [e1, e2] at hw
        exact absurd hw.symm (hm.2.2.2.2.2.2 k9 k2)
      · exact ⟨rfl, rfl, rfl⟩
  unfold addP at ha
  rcases ha with ⟨h5, h6⟩ | ⟨h5, r, h5r, h6⟩
  · have hc0 : (yL Y).2 ≠ 0 := by omega
    refine ⟨ad 24 0 0, (yL Y).2, ⟨h5, hn.2⟩, ?_⟩
    have r4 := RR.put r1 (a := 24) (j := 0) (k := 0) (e0 := _) (t24 (G := G) (ad := ad) (S := S) (X := X) (S2 := S2) (Y := Y) (O := O) hc0) rfl (e := cRf (G.2 8) (yL Y).2 (rf_of (aL S2 + 1) (fun i => if i = aL S2 then q else ad 27 i 0))) (g := mq_up f2 (ad 24 0 0) _) rfl
    have r5 := RR.put r4 (a := 23) (j := 0) (k := 0) (e0 := _) ((cU_n (by simp)).trans (t23 (G := G) (ad := ad) (S := S) (X := X) (S2 := S2) (Y := Y) (O := O))) rfl (e := cLs mc (ad 24 0 0) (aL S2 + 1)) (g := g) h6
    have eA : adU (nAR ad (aL S2) q kA mL ma wo) 24 0 0 (ad 24 0 0) = nAR ad (aL S2) q kA mL ma wo := adU_id (ad := nAR ad (aL S2) q kA mL ma wo)
    rw [← eA] at r5
    rw [cT_alR (r := ad 24 0 0) hc0] at r5; exact r5
  · have hy0 : (yL Y).2 = 0 := by omega
    have hnc : nc (yL Y).2 = 10 := by rw [hy0]; rfl
    rw [hnc] at h6
    refine ⟨r, 10, ⟨by omega, Or.inr rfl⟩, ?_⟩
    have r4 := RR.new r1 (a := 24) (j := 0) (k := 0) h5r (e := cRf (G.2 8) 10 (rf_of (aL S2 + 1) (fun i => if i = aL S2 then q else ad 27 i 0))) (g := mq_up f2 r _) rfl
    have r5 := RR.put r4 (a := 23) (j := 0) (k := 0) (e0 := _) ((cU_n (by simp)).trans (t23 (G := G) (ad := ad) (S := S) (X := X) (S2 := S2) (Y := Y) (O := O))) rfl (e := cLs mc r (aL S2 + 1)) (g := g) h6
    rw [cT_alR (r := r) (by decide)] at r5; exact r5
theorem mCp_al {S2 : AT} {Y : MX} {mc : Int32} {cap : Nat} (h : mCp S2 Y) (hc : aL S2 + 1 ≤ cap ∧ (cap = 0 ∨ cap = 10)) : mCp (nsLearner S2) (yLn Y (aL S2) (mc, cap)) := by
  refine ⟨h.1, hc, fun j k hj hk => ?_, fun j hj => ?_⟩
  · have hj : j < aL S2 + 1 := hj
    show lcO (mAn (if j = aL S2 then ma0 else aM S2 j k)).length (if j = aL S2 then ((0 : Int32), 0) else yA Y j k).2
    by_cases e : j = aL S2
    · rw [if_pos e, if_pos e]; exact ⟨Nat.le_refl 0, Nat.zero_le _⟩
    · rw [if_neg e, if_neg e]; exact h.2.2.1 j k (by omega) hk
  · have hj : j < aL S2 + 1 := hj
    show lcO (lMd (fU (aE S2) (aL S2) (none, none, []) j)).length (fU (yM Y) (aL S2) (0, 0) j).2
    unfold fU
    by_cases e : j = aL S2
    · rw [if_pos e, if_pos e]; exact ⟨Nat.le_refl 0, Nat.zero_le _⟩
    · rw [if_neg e, if_neg e]; exact h.2.2.2 j (by omega)

set_option maxHeartbeats 4000000 in
set_option maxRecDepth 100000 in
theorem c_X11_addLearner (l : Launch) (G : mq_G) (A : Nat → Prop) (f : mq_F) (ad : AD) (S : AT) (X : CX) (S2 : AT) (Y : MX) (O : OX) (T : Nat) : Met l yX11_addLearner wsX11_addLearner ({ frames := 7, cells := 24, slots := 121, locals := 171 } : Room) (mq_Pc G A f (WR G f ad S X S2 Y O ∧ mOK S2 Y T) [.ref (ad 20 0 0)]) (mq_Qi G A (fun r g => ∃ c9 S9 Y9 ad9, spLearner S2 = (c9, r, S9) ∧ WR G g ad9 S X S9 (yThr Y9 (nI c9)) O ∧ mCp S9 Y9 ∧ adK ad ad9)) 24 121 A := by
  refine Met.ofW (cc := cX11_addLearner) (maxL := 1) (ret := (some .int)) (by decide) rfl ?_
  intro p e s m args below meth c s₁ B hml hv
  obtain ⟨rfl, ⟨hK, hZ, hM, hA⟩, hp⟩ := hv
  have hx := B.exec
  have hb := B.bytes
  have hr := B.returns
  have hts := atoms_spec (ws := wsX11_addLearner) B.pre
  have hown : s.vm.findClass RX11 = some m.cls := findClass_of_methodNamed B.named
  have hlocks := B.notSynchronized
  have hS : va_S A s.heap s.heap [] := va_S.rf
  have hl := lv_entry ([.ref (ad 20 0 0)]) (n := 1) (Nat.le_of_ble_eq_true rfl)
  rw [lg_entry_eq]
  generalize (lg_sl ([.ref (ad 20 0 0)]) ++ List.replicate (1 - (lg_sl ([.ref (ad 20 0 0)])).length) Slot.unset).toArray = ls at hl ⊢
  have hl : lv_has ls 1 [(0, .ref (ad 20 0 0))] := hl
  have w0 := hts (.fieldLink RX11 19 "TutorlightModel" "thrown" "I") (List.mem_of_getElem? (i := 1) rfl)
  have w1 := hts (.fieldLink RX11 16 "TutorlightModel" "learners" "Ljava/util/ArrayList;") (List.mem_of_getElem? (i := 2) rfl)
  have w2 := hts (.classLink RX11 46 RX9) (List.mem_of_getElem? (i := 3) rfl)
  have w3 := hts (.instantiable RX9 8) (List.mem_of_getElem? (i := 4) rfl)
  have w4 := hts (.initialized RX9) (List.mem_of_getElem? (i := 5) rfl)
  have w5 := hts (.methodLink RX11 76 yX9_init) (List.mem_of_getElem? (i := 17) rfl)
  have w6 := hts (.instanceMethod yX9_init) (List.mem_of_getElem? (i := 18) rfl)
  have nX11 : ∀ w ∈ wsX110, w ∈ wsX11_addLearner := fun _ h => List.mem_cons_of_mem _ (List.mem_append_left _ (List.mem_append_left _ (List.mem_append_left _ (List.mem_append_right _ h))))
  have nX9 : ∀ w ∈ wsX90, w ∈ wsX11_addLearner := fun _ h => List.mem_cons_of_mem _ (List.mem_append_left _ (List.mem_append_left _ (List.mem_append_right _ h)))
  obtain ⟨hR, hO⟩ := hp
  obtain ⟨⟨X9, ⟨hn, hl4, hd2, hT⟩, hsk, hma, hdc, hle, -⟩, ⟨hns, hnc⟩, ⟨hls, hlc⟩, hac, hmc⟩ := id hO
  have y20_300 := hR.1 _ _ _ _ (t20)
  refine lv_aload_n hx hb dX11_addLearner_0 rfl (lv_at hl 0 rfl) ?_
  refine lv_iconst (v := 0) hx hb dX11_addLearner_1 (by decide) ?_
  refine mq_put (ci := 16) (v := .int 0) (ty := .int) (C := RX11) (T := TX11) (N := 4) (fs' := [.int 0, .int (nI (aD S2)), .ref (ad 21 0 0), .ref (ad 23 0 0)]) hx hb hts nX11 tyX11 tyX11_ok nmX11 hown hK hM hS y20_300 rfl 0 (by decide) w0 (fun _ h9 => h9) rfl (by decide +kernel) rfl rfl (Nat.le_of_ble_eq_true rfl) dX11_addLearner_2 rfl (fun f_1 H locs e_2 hM hS => ?_)
  have h_3 : f_1 (ad 20 0 0) = some (.inr (16, [.int 0, .int (nI (aD S2)), .ref (ad 21 0 0), .ref (ad 23 0 0)])) := mq_s e_2
  have hR1 := WR_yt hR e_2
  have y23_299 := hR1.1 _ _ _ _ (t23)
  refine lv_aload_n hx hb dX11_addLearner_5 rfl (lv_at hl 0 rfl) ?_
  refine lv_aload_n hx hb dX11_addLearner_6 rfl (lv_at hl 0 rfl) ?_
  refine mq_get (ci := 16) (v := .ref (ad 23 0 0)) (C := RX11) (T := TX11) (N := 4) hx hb hts nX11 hown hK hM h_3 rfl 3 (by decide) w1 (fun _ h9 => h9) rfl dX11_addLearner_7 ?_
  refine mq_calli (va_runV (As := []) (rest := [.ref (ad 20 0 0)]) ⟨hx, hb, hml, hown, hts⟩ (c_Jx4a65c_size_8abf5 l G A f_1 (ad 23 0 0) (yL Y).1 (lsD G (yL Y).2 (ad 24 0 0)) (aL S2)) (cwV 0 hts gX11_addLearner_Jx4a65c_size_8abf5 rfl rfl rfl (by decide +kernel) ⟨Nat.le_of_ble_eq_true rfl, Nat.le_of_ble_eq_true rfl⟩) (mq_preV hK hZ hS hA hM (q := (RJx4a65c, TJx4a65c, 3)) y23_299 rfl (y23_299) _) rfl rfl hl.1 rfl (lv_room (Nat.le_of_ble_eq_true rfl)) dX11_addLearner_10 ⟨Nat.le_of_ble_eq_true rfl, Nat.le_of_ble_eq_true rfl⟩) hS (fun r10 g10 H locs p10 hM hS => ?_)
  refine W.widen (k := 0) (n := 0) (Nat.le_of_ble_eq_true rfl) (Nat.le_of_ble_eq_true rfl) ?_
  obtain ⟨rfl, rfl⟩ := p10
  refine lv_iconst (v := 4) hx hb dX11_addLearner_13 (by decide) ?_
  refine lv_icmp_ne (tgt := 21) hx hb dX11_addLearner_14 (by decide) (fun c_14 => ?_) (fun c_14 => ?_)
  · replace c_14 : ¬ nI (aL S2) = nI 4 := c_14
    rw [nI_eq (by omega) (by omega)] at c_14
    refine lv_iconst (v := 0) hx hb dX11_addLearner_21 (by decide) ?_
    refine lv_iconst (v := 1) hx hb dX11_addLearner_22 (by decide) ?_
    refine mq_calli (va_runV (As := [.int 0, .int 1]) (rest := []) ⟨hx, hb, hml, hown, hts⟩ (c_X11_fails l G A f_1 (ad 20 0 0) false 1 0 (nI (aD S2)) (ad 21 0 0) (ad 23 0 0)) (cwV 2 hts gX11_addLearner_X11_fails rfl rfl rfl (by decide +kernel) ⟨Nat.le_of_ble_eq_true rfl, Nat.le_of_ble_eq_true rfl⟩) (mq_preV hK hZ hS hA hM (q := (RX11, TX11, 4)) h_3 rfl (h_3) _) rfl rfl hl.1 rfl (lv_room (Nat.le_of_ble_eq_true rfl)) dX11_addLearner_23 ⟨Nat.le_of_ble_eq_true rfl, Nat.le_of_ble_eq_true rfl⟩) hS (fun r23 g23 H locs p23 hM hS => ?_)
    refine W.widen (k := 0) (n := 0) (Nat.le_of_ble_eq_true rfl) (Nat.le_of_ble_eq_true rfl) ?_
    obtain ⟨hg, hr9⟩ := p23
    obtain rfl := fl_0 h_3 hg
    rw [hr9, show zb (decide (fT false 0 1 ≠ 0)) = 0 from by decide]
    refine lv_if_eq (tgt := 31) hx hb dX11_addLearner_26 (by decide) (fun c_26 => ?_) (fun c_26 => absurd c_26 (by decide))
    refine lv_aload_n hx hb dX11_addLearner_31 rfl (lv_at hl 0 rfl) ?_
    refine mq_get (ci := 16) (v := .ref (ad 23 0 0)) (C := RX11) (T := TX11) (N := 4) hx hb hts nX11 hown hK hM h_3 rfl 3 (by decide) w1 (fun _ h9 => h9) rfl dX11_addLearner_32 ?_
    have hroom : aL S2 < 4 := by omega
    refine mq_new (ci := 14) (fs := [.null, .null, .null, .int 0, .int 0, .int 0, .null, .null]) (C := RX9) (T := TX9) (N := 8) hx hb hts nX9 tyX9 tyX9_ok hown w2 w3 w4 hK hM hS hA rfl (fun j hj => by rcases (show j = 0 ∨ j = 1 ∨ j = 2 ∨ j = 3 ∨ j = 4 ∨ j = 5 ∨ j = 6 ∨ j = 7 by omega) with rfl | rfl | rfl | rfl | rfl | rfl | rfl | rfl <;> rfl) (Nat.le_of_ble_eq_true rfl) (Nat.le_of_ble_eq_true rfl) dX11_addLearner_35 (fun q35 f_4 H hq35 e_5 hM hS => ?_)
    refine W.widen (k := 1) (n := 8) (Nat.le_of_ble_eq_true rfl) (Nat.le_of_ble_eq_true rfl) ?_
    have h_6 : f_4 (ad 20 0 0) = some (.inr (16, [.int 0, .int (nI (aD S2)), .ref (ad 21 0 0), .ref (ad 23 0 0)])) := mq_n e_5 h_3 (mq_neN h_3 hq35)
    have h_7 : f_4 (ad 23 0 0) = some (.inr (4, [.int ((yL Y).1), .ref (lsD G (yL Y).2 (ad 24 0 0)), .int (nI (aL S2))])) := mq_n e_5 y23_299 (mq_neN y23_299 hq35)
    have h_8 : f_4 q35 = some (.inr (14, [.null, .null, .null, .int 0, .int 0, .int 0, .null, .null])) := mq_s e_5
    refine lv_dup hx hb dX11_addLearner_38 rfl ?_
    refine mq_callv (va_runI (As := []) (rest := [.ref q35, .ref (ad 23 0 0)]) ⟨hx, hb, hml, hown, hts⟩ (c_X9_init l G A f_4 q35) (cwI 0 hts gX11_addLearner_X9_init rfl rfl rfl w4 w5 w6 rfl (by decide +kernel) ⟨Nat.le_of_ble_eq_true rfl, Nat.le_of_ble_eq_true rfl⟩) (mq_preS hK hZ hS hA hM (h_8) _) rfl rfl hl.1 rfl (lv_room (Nat.le_of_ble_eq_true rfl)) dX11_addLearner_39 ⟨Nat.le_of_ble_eq_true rfl, Nat.le_of_ble_eq_true rfl⟩) hS (fun g39 H locs p39 hM hS => ?_)
    refine W.widen (k := 23) (n := 111) (Nat.le_of_ble_eq_true rfl) (Nat.le_of_ble_eq_true rfl) ?_
    obtain ⟨kA, mL, ma, wo, hm⟩ := p39
    have hkk : ∀ y e, f_1 y = some e → g39 y = some e := fun y e hy => hm.1.2.2 y e (mq_neN hy hq35) (mq_n e_5 hy (mq_neN hy hq35))
    have v20 := hm.1.2.2 _ _ (mq_neO h_6 h_8 (by decide)) h_6
    have v23 := hm.1.2.2 _ _ (mq_neO h_7 h_8 (by decide)) h_7
    have vq := hm.2.2.2.1
    have e35 := e_5
    refine mq_calli (va_runV (As := [.ref q35]) (rest := []) ⟨hx, hb, hml, hown, hts⟩ (c_Jx4a65c_add_9ea2d l G A g39 (ad 23 0 0) q35 (yL Y).1 (yL Y).2 (ad 24 0 0) (aL S2) (fun i => ad 27 i 0) 10) (cwV 1 hts gX11_addLearner_Jx4a65c_add_9ea2d rfl rfl rfl (by decide +kernel) ⟨Nat.le_of_ble_eq_true rfl, Nat.le_of_ble_eq_true rfl⟩) (mq_preV hK hZ hS hA hM (q := (RJx4a65c, TJx4a65c, 3)) v23 rfl (⟨v23, fun q => hkk _ _ (hR1.1 _ _ _ _ (t24 q)), hls, by omega, by omega, fun q => (by have h9 : (yL Y).2 = 0 := (by omega); rw [h9]; decide), fun i hi => Or.inl ⟨14, _, _, hkk _ _ (hR1.1 _ _ _ _ (t27 (j := i) hi)), rfl, by decide⟩, Or.inl ⟨14, _, _, vq, rfl, by decide⟩⟩) _) rfl rfl hl.1 rfl (lv_room (Nat.le_of_ble_eq_true rfl)) dX11_addLearner_42 ⟨Nat.le_of_ble_eq_true rfl, Nat.le_of_ble_eq_true rfl⟩) hS (fun r42 g42 H locs p42 hM hS => ?_)
    refine W.widen (k := 24) (n := 121) (Nat.le_of_ble_eq_true rfl) (Nat.le_of_ble_eq_true rfl) ?_
    obtain ⟨ha42, rfl⟩ := p42
    obtain ⟨r9, cap9, hcap9, hR5⟩ := WR_alR hR1 ⟨hls, hlc⟩ hroom hq35 e35 hm ha42
    have z20 : g42 (ad 20 0 0) = some (.inr (16, [.int 0, .int (nI (aD S2)), .ref (ad 21 0 0), .ref (ad 23 0 0)])) := hR5.1 20 0 0 _ t20
    have z23 := hR5.1 23 0 0 _ t23
    refine lv_pop hx hb dX11_addLearner_45 rfl ?_
    refine lv_aload_n hx hb dX11_addLearner_46 rfl (lv_at hl 0 rfl) ?_
    refine mq_get (ci := 16) (v := .ref (ad 23 0 0)) (C := RX11) (T := TX11) (N := 4) hx hb hts nX11 hown hK hM z20 rfl 3 (by decide) w1 (fun _ h9 => h9) rfl dX11_addLearner_47 ?_
    refine mq_calli (va_runV (As := []) (rest := []) ⟨hx, hb, hml, hown, hts⟩ (c_Jx4a65c_size_8abf5 l G A g42 (ad 23 0 0) ((yL Y).1 + 1) (lsD G cap9 r9) (aL S2 + 1)) (cwV 0 hts gX11_addLearner_Jx4a65c_size_8abf5 rfl rfl rfl (by decide +kernel) ⟨Nat.le_of_ble_eq_true rfl, Nat.le_of_ble_eq_true rfl⟩) (mq_preV hK hZ hS hA hM (q := (RJx4a65c, TJx4a65c, 3)) z23 rfl (z23) _) rfl rfl hl.1 rfl (lv_room (Nat.le_of_ble_eq_true rfl)) dX11_addLearner_50 ⟨Nat.le_of_ble_eq_true rfl, Nat.le_of_ble_eq_true rfl⟩) hS (fun r50 g50 H locs p50 hM hS => ?_)
    refine W.widen (k := 24) (n := 121) (Nat.le_of_ble_eq_true rfl) (Nat.le_of_ble_eq_true rfl) ?_
    obtain ⟨rfl, rfl⟩ := p50
    refine lv_iconst (v := 1) hx hb dX11_addLearner_53 (by decide) ?_
    refine lv_isub hx hb dX11_addLearner_54 ?_
    rw [show (nI (aL S2 + 1)) - 1 = nI ((aL S2 + 1) - 1) from pk_sub (a := aL S2 + 1) (b := 1) (by omega)]
    exact mq_iret (v := nI ((aL S2 + 1) - 1)) hx hb hr hlocks hM hS (⟨0, nsLearner S2, yLn Y (aL S2) ((yL Y).1 + 1, cap9), _, if_pos hroom, hR5, mCp_al hO.2 hcap9, ⟨rfl, rfl, rfl, rfl⟩⟩) dX11_addLearner_55
  · replace c_14 : nI (aL S2) = nI 4 := c_14
    rw [nI_eq (by omega) (by omega)] at c_14
    refine lv_iconst (v := 1) hx hb dX11_addLearner_17 (by decide) ?_
    refine lv_goto (tgt := 22) hx hb dX11_addLearner_18 (by decide) ?_
    refine lv_iconst (v := 1) hx hb dX11_addLearner_22 (by decide) ?_
    refine mq_calli (va_runV (As := [.int 1, .int 1]) (rest := []) ⟨hx, hb, hml, hown, hts⟩ (c_X11_fails l G A f_1 (ad 20 0 0) true 1 0 (nI (aD S2)) (ad 21 0 0) (ad 23 0 0)) (cwV 2 hts gX11_addLearner_X11_fails rfl rfl rfl (by decide +kernel) ⟨Nat.le_of_ble_eq_true rfl, Nat.le_of_ble_eq_true rfl⟩) (mq_preV hK hZ hS hA hM (q := (RX11, TX11, 4)) h_3 rfl (h_3) _) rfl rfl hl.1 rfl (lv_room (Nat.le_of_ble_eq_true rfl)) dX11_addLearner_23 ⟨Nat.le_of_ble_eq_true rfl, Nat.le_of_ble_eq_true rfl⟩) hS (fun r23 g23 H locs p23 hM hS => ?_)
    refine W.widen (k := 0) (n := 0) (Nat.le_of_ble_eq_true rfl) (Nat.le_of_ble_eq_true rfl) ?_
    obtain ⟨hg, hr9⟩ := p23
    rw [hr9, show zb (decide (fT true 0 1 ≠ 0)) = 1 from by decide]
    refine lv_if_eq (tgt := 31) hx hb dX11_addLearner_26 (by decide) (fun c_26 => absurd c_26 (by decide)) (fun c_26 => ?_)
    refine lv_iconst (v := 0) hx hb dX11_addLearner_29 (by decide) ?_
    refine W.widen (k := 24) (n := 121) (Nat.le_of_ble_eq_true rfl) (Nat.le_of_ble_eq_true rfl) ?_
    exact mq_iret (v := 0) hx hb hr hlocks hM hS (⟨1, S2, Y, ad, if_neg (by omega), (by have q9 := WR_yt hR1 hg; exact q9), hO.2, adK_id⟩) dX11_addLearner_30
