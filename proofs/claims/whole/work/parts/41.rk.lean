/-! THE REFERENCE: open, setOdds -/
abbrev yAn (Y : MX) (j k : Nat) (v : Int32 × Nat) : MX := (yT Y, yS Y, yL Y, fU2 (yA Y) j k v, yM Y, yO Y)
abbrev yMn (Y : MX) (j : Nat) (v : Int32 × Nat) (o : Nat × Nat × Nat) : MX := (yT Y, yS Y, yL Y, yA Y, fU (yM Y) j v, fU (yO Y) j o)
abbrev cKn (v : maT) (q : Nat) : va_E := .inr (13, [.int (nI (mOd v)), .int (nI (mTo v)), .ref q, .int (zb (mOp v)), .int (nI (mRo v)), .int (du (mDu v))])
abbrev rBo (G : mq_G) (an : List Bool) : Nat → Option Nat := rf_of an.length (fun i => sB G (an.getD i false))
theorem rf_00 {a b : Nat → Nat} : rf_of 0 a = rf_of 0 b := by rw [← rf_0, ← rf_0]
theorem mCp_an {S2 : AT} {Y : MX} {j k cap : Nat} {v : maT} {mc : Int32} (h : mCp S2 Y) (hc : lcO (mAn v).length cap) : mCp (sMa S2 j k v) (yAn Y j k (mc, cap)) := by
  refine ⟨h.1, h.2.1, fun j' k' hj hk => ?_, h.2.2.2⟩
  show lcO (mAn (fU2 (aM S2) j k v j' k')).length (fU2 (yA Y) j k (mc, cap) j' k').2
  unfold fU2
  split
  · exact hc
  · exact h.2.2.1 j' k' hj hk
theorem mCp_ma {S2 : AT} {Y : MX} {j k : Nat} {v : maT} (h : mCp S2 Y) (hv : mAn v = mAn (aM S2 j k)) : mCp (sMa S2 j k v) Y := by
  refine ⟨h.1, h.2.1, fun j' k' hj hk => ?_, h.2.2.2⟩
  show lcO (mAn (fU2 (aM S2) j k v j' k')).length (yA Y j' k').2
  unfold fU2
  split
  · rename_i e
    obtain ⟨rfl, rfl⟩ := e
    rw [hv]; exact h.2.2.1 _ _ hj hk
  · exact h.2.2.1 j' k' hj hk

set_option maxHeartbeats 2000000 in
theorem cT_kn1 {G : mq_G} {ad : AD} {S : AT} {X : CX} {S2 : AT} {Y : MX} {O : OX} {j0 k0 : Nat} (v : maT) (hv : mAn v = mAn (aM S2 j0 k0)) (hj : j0 < aL S2) (hk : k0 < 10) : cU (cT G ad S X S2 Y O) 29 j0 k0 (cKn v (ad 30 j0 k0)) = cT G ad S X (sMa S2 j0 k0 v) Y O := by
  funext a j k
  exact (match a with
    | 0 => by first | rfl | (simp [aN, aL, aD, aS, aM, aE, sTop, sSk, sMa, sLe, xW, xLn, xOl, xB, xSo, xR, xK, sW, sRi, sXp, lEx, lWs, lMd, cU, cT, adU, fU, fU2]; done)
    | 1 => by first | rfl | (simp [aN, aL, aD, aS, aM, aE, sTop, sSk, sMa, sLe, xW, xLn, xOl, xB, xSo, xR, xK, sW, sRi, sXp, lEx, lWs, lMd, cU, cT, adU, fU, fU2]; done)
    | 2 => by first | rfl | (simp [aN, aL, aD, aS, aM, aE, sTop, sSk, sMa, sLe, xW, xLn, xOl, xB, xSo, xR, xK, sW, sRi, sXp, lEx, lWs, lMd, cU, cT, adU, fU, fU2]; done)
    | 3 => by first | rfl | (simp [aN, aL, aD, aS, aM, aE, sTop, sSk, sMa, sLe, xW, xLn, xOl, xB, xSo, xR, xK, sW, sRi, sXp, lEx, lWs, lMd, cU, cT, adU, fU, fU2]; done)
    | 4 => by first | rfl | (simp [aN, aL, aD, aS, aM, aE, sTop, sSk, sMa, sLe, xW, xLn, xOl, xB, xSo, xR, xK, sW, sRi, sXp, lEx, lWs, lMd, cU, cT, adU, fU, fU2]; done)
    | 5 => by first | rfl | (simp [aN, aL, aD, aS, aM, aE, sTop, sSk, sMa, sLe, xW, xLn, xOl, xB, xSo, xR, xK, sW, sRi, sXp, lEx, lWs, lMd, cU, cT, adU, fU, fU2]; done)
    | 6 => by first | rfl | (simp [aN, aL, aD, aS, aM, aE, sTop, sSk, sMa, sLe, xW, xLn, xOl, xB, xSo, xR, xK, sW, sRi, sXp, lEx, lWs, lMd, cU, cT, adU, fU, fU2]; done)
    | 7 => by first | rfl | (simp [aN, aL, aD, aS, aM, aE, sTop, sSk, sMa, sLe, xW, xLn, xOl, xB, xSo, xR, xK, sW, sRi, sXp, lEx, lWs, lMd, cU, cT, adU, fU, fU2]; done)
    | 8 => by first | rfl | (simp [aN, aL, aD, aS, aM, aE, sTop, sSk, sMa, sLe, xW, xLn, xOl, xB, xSo, xR, xK, sW, sRi, sXp, lEx, lWs, lMd, cU, cT, adU, fU, fU2]; done)
    | 9 => by first | rfl | (simp [aN, aL, aD, aS, aM, aE, sTop, sSk, sMa, sLe, xW, xLn, xOl, xB, xSo, xR, xK, sW, sRi, sXp, lEx, lWs, lMd, cU, cT, adU, fU, fU2]; done)
    | 10 => by first | rfl | (simp [aN, aL, aD, aS, aM, aE, sTop, sSk, sMa, sLe, xW, xLn, xOl, xB, xSo, xR, xK, sW, sRi, sXp, lEx, lWs, lMd, cU, cT, adU, fU, fU2]; done)
    | 11 => by first | rfl | (simp [aN, aL, aD, aS, aM, aE, sTop, sSk, sMa, sLe, xW, xLn, xOl, xB, xSo, xR, xK, sW, sRi, sXp, lEx, lWs, lMd, cU, cT, adU, fU, fU2]; done)
    | 12 => by first | rfl | (simp [aN, aL, aD, aS, aM, aE, sTop, sSk, sMa, sLe, xW, xLn, xOl, xB, xSo, xR, xK, sW, sRi, sXp, lEx, lWs, lMd, cU, cT, adU, fU, fU2]; done)
    | 13 => by first | rfl | (simp [aN, aL, aD, aS, aM, aE, sTop, sSk, sMa, sLe, xW, xLn, xOl, xB, xSo, xR, xK, sW, sRi, sXp, lEx, lWs, lMd, cU, cT, adU, fU, fU2]; done)
    | 14 => by first | rfl | (simp [aN, aL, aD, aS, aM, aE, sTop, sSk, sMa, sLe, xW, xLn, xOl, xB, xSo, xR, xK, sW, sRi, sXp, lEx, lWs, lMd, cU, cT, adU, fU, fU2]; done)
    | 15 => by first | rfl | (simp [aN, aL, aD, aS, aM, aE, sTop, sSk, sMa, sLe, xW, xLn, xOl, xB, xSo, xR, xK, sW, sRi, sXp, lEx, lWs, lMd, cU, cT, adU, fU, fU2]; done)
    | 16 => by first | rfl | (simp [aN, aL, aD, aS, aM, aE, sTop, sSk, sMa, sLe, xW, xLn, xOl, xB, xSo, xR, xK, sW, sRi, sXp, lEx, lWs, lMd, cU, cT, adU, fU, fU2]; done)
    | 17 => by first | rfl | (simp [aN, aL, aD, aS, aM, aE, sTop, sSk, sMa, sLe, xW, xLn, xOl, xB, xSo, xR, xK, sW, sRi, sXp, lEx, lWs, lMd, cU, cT, adU, fU, fU2]; done)
    | 18 => by first | rfl | (simp [aN, aL, aD, aS, aM, aE, sTop, sSk, sMa, sLe, xW, xLn, xOl, xB, xSo, xR, xK, sW, sRi, sXp, lEx, lWs, lMd, cU, cT, adU, fU, fU2]; done)
    | 19 => by first | rfl | (simp [aN, aL, aD, aS, aM, aE, sTop, sSk, sMa, sLe, xW, xLn, xOl, xB, xSo, xR, xK, sW, sRi, sXp, lEx, lWs, lMd, cU, cT, adU, fU, fU2]; done)
    | 20 => by first | rfl | (simp [aN, aL, aD, aS, aM, aE, sTop, sSk, sMa, sLe, xW, xLn, xOl, xB, xSo, xR, xK, sW, sRi, sXp, lEx, lWs, lMd, cU, cT, adU, fU, fU2]; done)
    | 21 => by first | rfl | (simp [aN, aL, aD, aS, aM, aE, sTop, sSk, sMa, sLe, xW, xLn, xOl, xB, xSo, xR, xK, sW, sRi, sXp, lEx, lWs, lMd, cU, cT, adU, fU, fU2]; done)
    | 22 => by first | rfl | (simp [aN, aL, aD, aS, aM, aE, sTop, sSk, sMa, sLe, xW, xLn, xOl, xB, xSo, xR, xK, sW, sRi, sXp, lEx, lWs, lMd, cU, cT, adU, fU, fU2]; done)
    | 23 => by first | rfl | (simp [aN, aL, aD, aS, aM, aE, sTop, sSk, sMa, sLe, xW, xLn, xOl, xB, xSo, xR, xK, sW, sRi, sXp, lEx, lWs, lMd, cU, cT, adU, fU, fU2]; done)
    | 24 => by first | rfl | (simp [aN, aL, aD, aS, aM, aE, sTop, sSk, sMa, sLe, xW, xLn, xOl, xB, xSo, xR, xK, sW, sRi, sXp, lEx, lWs, lMd, cU, cT, adU, fU, fU2]; done)
    | 25 => by first | rfl | (simp [aN, aL, aD, aS, aM, aE, sTop, sSk, sMa, sLe, xW, xLn, xOl, xB, xSo, xR, xK, sW, sRi, sXp, lEx, lWs, lMd, cU, cT, adU, fU, fU2]; done)
    | 26 => by first | rfl | (simp [aN, aL, aD, aS, aM, aE, sTop, sSk, sMa, sLe, xW, xLn, xOl, xB, xSo, xR, xK, sW, sRi, sXp, lEx, lWs, lMd, cU, cT, adU, fU, fU2]; done)
    | 27 => by first | rfl | (simp [aN, aL, aD, aS, aM, aE, sTop, sSk, sMa, sLe, xW, xLn, xOl, xB, xSo, xR, xK, sW, sRi, sXp, lEx, lWs, lMd, cU, cT, adU, fU, fU2]; done)
    | 28 => by first | rfl | (simp [aN, aL, aD, aS, aM, aE, sTop, sSk, sMa, sLe, xW, xLn, xOl, xB, xSo, xR, xK, sW, sRi, sXp, lEx, lWs, lMd, cU, cT, adU, fU, fU2]; done)
    | 29 => by
        by_cases h : j = j0 ∧ k = k0
        · obtain ⟨rfl, rfl⟩ := h; simp [aN, aL, aD, aS, aM, aE, sTop, sSk, sMa, sLe, lEx, lWs, lMd, cU, cT, adU, fU, fU2, yT, yS, yL, yA, yM, yO, yAn, yMn, oMap, hj, hk, hv]
        · simp [aN, aL, aD, aS, aM, aE, sTop, sSk, sMa, sLe, lEx, lWs, lMd, cU, cT, adU, fU, fU2, yT, yS, yL, yA, yM, yO, yAn, yMn, oMap, h]
    | 30 => by
        by_cases h : j = j0 ∧ k = k0
        · obtain ⟨rfl, rfl⟩ := h; simp [aN, aL, aD, aS, aM, aE, sTop, sSk, sMa, sLe, lEx, lWs, lMd, cU, cT, adU, fU, fU2, yT, yS, yL, yA, yM, yO, yAn, yMn, oMap, hj, hk, hv]
        · simp [aN, aL, aD, aS, aM, aE, sTop, sSk, sMa, sLe, lEx, lWs, lMd, cU, cT, adU, fU, fU2, yT, yS, yL, yA, yM, yO, yAn, yMn, oMap, h]
    | 31 => by
        by_cases h : j = j0 ∧ k = k0
        · obtain ⟨rfl, rfl⟩ := h; simp [aN, aL, aD, aS, aM, aE, sTop, sSk, sMa, sLe, lEx, lWs, lMd, cU, cT, adU, fU, fU2, yT, yS, yL, yA, yM, yO, yAn, yMn, oMap, hj, hk, hv]
        · simp [aN, aL, aD, aS, aM, aE, sTop, sSk, sMa, sLe, lEx, lWs, lMd, cU, cT, adU, fU, fU2, yT, yS, yL, yA, yM, yO, yAn, yMn, oMap, h]
    | 32 => by first | rfl | (simp [aN, aL, aD, aS, aM, aE, sTop, sSk, sMa, sLe, xW, xLn, xOl, xB, xSo, xR, xK, sW, sRi, sXp, lEx, lWs, lMd, cU, cT, adU, fU, fU2]; done)
    | 33 => by first | rfl | (simp [aN, aL, aD, aS, aM, aE, sTop, sSk, sMa, sLe, xW, xLn, xOl, xB, xSo, xR, xK, sW, sRi, sXp, lEx, lWs, lMd, cU, cT, adU, fU, fU2]; done)
    | 34 => by first | rfl | (simp [aN, aL, aD, aS, aM, aE, sTop, sSk, sMa, sLe, xW, xLn, xOl, xB, xSo, xR, xK, sW, sRi, sXp, lEx, lWs, lMd, cU, cT, adU, fU, fU2]; done)
    | 35 => by first | rfl | (simp [aN, aL, aD, aS, aM, aE, sTop, sSk, sMa, sLe, xW, xLn, xOl, xB, xSo, xR, xK, sW, sRi, sXp, lEx, lWs, lMd, cU, cT, adU, fU, fU2]; done)
    | 36 => by first | rfl | (simp [aN, aL, aD, aS, aM, aE, sTop, sSk, sMa, sLe, xW, xLn, xOl, xB, xSo, xR, xK, sW, sRi, sXp, lEx, lWs, lMd, cU, cT, adU, fU, fU2]; done)
    | 37 => by first | rfl | (simp [aN, aL, aD, aS, aM, aE, sTop, sSk, sMa, sLe, xW, xLn, xOl, xB, xSo, xR, xK, sW, sRi, sXp, lEx, lWs, lMd, cU, cT, adU, fU, fU2]; done)
    | 38 => by first | rfl | (simp [aN, aL, aD, aS, aM, aE, sTop, sSk, sMa, sLe, xW, xLn, xOl, xB, xSo, xR, xK, sW, sRi, sXp, lEx, lWs, lMd, cU, cT, adU, fU, fU2]; done)
    | 39 => by first | rfl | (simp [aN, aL, aD, aS, aM, aE, sTop, sSk, sMa, sLe, xW, xLn, xOl, xB, xSo, xR, xK, sW, sRi, sXp, lEx, lWs, lMd, cU, cT, adU, fU, fU2]; done)
    | n + 40 => by first | rfl | simp [cU, cT])

set_option maxHeartbeats 2000000 in
theorem cT_s3 {G : mq_G} {ad : AD} {S : AT} {X : CX} {S2 : AT} {Y : MX} {O : OX} {j0 k0 : Nat} (o : Nat) (mc : Int32) (gg : Nat → Nat) (hc : (yA Y j0 k0).2 ≠ 0) (hj : j0 < aL S2) (hk : k0 < 10) : cU (cU (cU (cT G ad S X S2 Y O) 29 j0 k0 (cKn (o, o, [], mOp (aM S2 j0 k0), mRo (aM S2 j0 k0), mDu (aM S2 j0 k0)) (ad 30 j0 k0))) 31 j0 k0 (cRf (G.2 8) (yA Y j0 k0).2 (rf_of 0 gg))) 30 j0 k0 (cLs mc (lsD G (yA Y j0 k0).2 (ad 31 j0 k0)) 0) = cT G ad S X (nsSet S2 j0 k0 o) (yAn Y j0 k0 (mc, (yA Y j0 k0).2)) O := by
  funext a j k
  exact (match a with
    | 0 => by first | rfl | (simp [aN, aL, aD, aS, aM, aE, sTop, sSk, sMa, sLe, xW, xLn, xOl, xB, xSo, xR, xK, sW, sRi, sXp, lEx, lWs, lMd, cU, cT, adU, fU, fU2]; done)
    | 1 => by first | rfl | (simp [aN, aL, aD, aS, aM, aE, sTop, sSk, sMa, sLe, xW, xLn, xOl, xB, xSo, xR, xK, sW, sRi, sXp, lEx, lWs, lMd, cU, cT, adU, fU, fU2]; done)
    | 2 => by first | rfl | (simp [aN, aL, aD, aS, aM, aE, sTop, sSk, sMa, sLe, xW, xLn, xOl, xB, xSo, xR, xK, sW, sRi, sXp, lEx, lWs, lMd, cU, cT, adU, fU, fU2]; done)
    | 3 => by first | rfl | (simp [aN, aL, aD, aS, aM, aE, sTop, sSk, sMa, sLe, xW, xLn, xOl, xB, xSo, xR, xK, sW, sRi, sXp, lEx, lWs, lMd, cU, cT, adU, fU, fU2]; done)
    | 4 => by first | rfl | (simp [aN, aL, aD, aS, aM, aE, sTop, sSk, sMa, sLe, xW, xLn, xOl, xB, xSo, xR, xK, sW, sRi, sXp, lEx, lWs, lMd, cU, cT, adU, fU, fU2]; done)
    | 5 => by first | rfl | (simp [aN, aL, aD, aS, aM, aE, sTop, sSk, sMa, sLe, xW, xLn, xOl, xB, xSo, xR, xK, sW, sRi, sXp, lEx, lWs, lMd, cU, cT, adU, fU, fU2]; done)
    | 6 => by first | rfl | (simp [aN, aL, aD, aS, aM, aE, sTop, sSk, sMa, sLe, xW, xLn, xOl, xB, xSo, xR, xK, sW, sRi, sXp, lEx, lWs, lMd, cU, cT, adU, fU, fU2]; done)
    | 7 => by first | rfl | (simp [aN, aL, aD, aS, aM, aE, sTop, sSk, sMa, sLe, xW, xLn, xOl, xB, xSo, xR, xK, sW, sRi, sXp, lEx, lWs, lMd, cU, cT, adU, fU, fU2]; done)
    | 8 => by first | rfl | (simp [aN, aL, aD, aS, aM, aE, sTop, sSk, sMa, sLe, xW, xLn, xOl, xB, xSo, xR, xK, sW, sRi, sXp, lEx, lWs, lMd, cU, cT, adU, fU, fU2]; done)
    | 9 => by first | rfl | (simp [aN, aL, aD, aS, aM, aE, sTop, sSk, sMa, sLe, xW, xLn, xOl, xB, xSo, xR, xK, sW, sRi, sXp, lEx, lWs, lMd, cU, cT, adU, fU, fU2]; done)
    | 10 => by first | rfl | (simp [aN, aL, aD, aS, aM, aE, sTop, sSk, sMa, sLe, xW, xLn, xOl, xB, xSo, xR, xK, sW, sRi, sXp, lEx, lWs, lMd, cU, cT, adU, fU, fU2]; done)
    | 11 => by first | rfl | (simp [aN, aL, aD, aS, aM, aE, sTop, sSk, sMa, sLe, xW, xLn, xOl, xB, xSo, xR, xK, sW, sRi, sXp, lEx, lWs, lMd, cU, cT, adU, fU, fU2]; done)
    | 12 => by first | rfl | (simp [aN, aL, aD, aS, aM, aE, sTop, sSk, sMa, sLe, xW, xLn, xOl, xB, xSo, xR, xK, sW, sRi, sXp, lEx, lWs, lMd, cU, cT, adU, fU, fU2]; done)
    | 13 => by first | rfl | (simp [aN, aL, aD, aS, aM, aE, sTop, sSk, sMa, sLe, xW, xLn, xOl, xB, xSo, xR, xK, sW, sRi, sXp, lEx, lWs, lMd, cU, cT, adU, fU, fU2]; done)
    | 14 => by first | rfl | (simp [aN, aL, aD, aS, aM, aE, sTop, sSk, sMa, sLe, xW, xLn, xOl, xB, xSo, xR, xK, sW, sRi, sXp, lEx, lWs, lMd, cU, cT, adU, fU, fU2]; done)
    | 15 => by first | rfl | (simp [aN, aL, aD, aS, aM, aE, sTop, sSk, sMa, sLe, xW, xLn, xOl, xB, xSo, xR, xK, sW, sRi, sXp, lEx, lWs, lMd, cU, cT, adU, fU, fU2]; done)
    | 16 => by first | rfl | (simp [aN, aL, aD, aS, aM, aE, sTop, sSk, sMa, sLe, xW, xLn, xOl, xB, xSo, xR, xK, sW, sRi, sXp, lEx, lWs, lMd, cU, cT, adU, fU, fU2]; done)
    | 17 => by first | rfl | (simp [aN, aL, aD, aS, aM, aE, sTop, sSk, sMa, sLe, xW, xLn, xOl, xB, xSo, xR, xK, sW, sRi, sXp, lEx, lWs, lMd, cU, cT, adU, fU, fU2]; done)
    | 18 => by first | rfl | (simp [aN, aL, aD, aS, aM, aE, sTop, sSk, sMa, sLe, xW, xLn, xOl, xB, xSo, xR, xK, sW, sRi, sXp, lEx, lWs, lMd, cU, cT, adU, fU, fU2]; done)
    | 19 => by first | rfl | (simp [aN, aL, aD, aS, aM, aE, sTop, sSk, sMa, sLe, xW, xLn, xOl, xB, xSo, xR, xK, sW, sRi, sXp, lEx, lWs, lMd, cU, cT, adU, fU, fU2]; done)
    | 20 => by first | rfl | (simp [aN, aL, aD, aS, aM, aE, sTop, sSk, sMa, sLe, xW, xLn, xOl, xB, xSo, xR, xK, sW, sRi, sXp, lEx, lWs, lMd, cU, cT, adU, fU, fU2]; done)
    | 21 => by first | rfl | (simp [aN, aL, aD, aS, aM, aE, sTop, sSk, sMa, sLe, xW, xLn, xOl, xB, xSo, xR, xK, sW, sRi, sXp, lEx, lWs, lMd, cU, cT, adU, fU, fU2]; done)
    | 22 => by first | rfl | (simp [aN, aL, aD, aS, aM, aE, sTop, sSk, sMa, sLe, xW, xLn, xOl, xB, xSo, xR, xK, sW, sRi, sXp, lEx, lWs, lMd, cU, cT, adU, fU, fU2]; done)
    | 23 => by first | rfl | (simp [aN, aL, aD, aS, aM, aE, sTop, sSk, sMa, sLe, xW, xLn, xOl, xB, xSo, xR, xK, sW, sRi, sXp, lEx, lWs, lMd, cU, cT, adU, fU, fU2]; done)
    | 24 => by first | rfl | (simp [aN, aL, aD, aS, aM, aE, sTop, sSk, sMa, sLe, xW, xLn, xOl, xB, xSo, xR, xK, sW, sRi, sXp, lEx, lWs, lMd, cU, cT, adU, fU, fU2]; done)
    | 25 => by first | rfl | (simp [aN, aL, aD, aS, aM, aE, sTop, sSk, sMa, sLe, xW, xLn, xOl, xB, xSo, xR, xK, sW, sRi, sXp, lEx, lWs, lMd, cU, cT, adU, fU, fU2]; done)
    | 26 => by first | rfl | (simp [aN, aL, aD, aS, aM, aE, sTop, sSk, sMa, sLe, xW, xLn, xOl, xB, xSo, xR, xK, sW, sRi, sXp, lEx, lWs, lMd, cU, cT, adU, fU, fU2]; done)
    | 27 => by first | rfl | (simp [aN, aL, aD, aS, aM, aE, sTop, sSk, sMa, sLe, xW, xLn, xOl, xB, xSo, xR, xK, sW, sRi, sXp, lEx, lWs, lMd, cU, cT, adU, fU, fU2]; done)
    | 28 => by first | rfl | (simp [aN, aL, aD, aS, aM, aE, sTop, sSk, sMa, sLe, xW, xLn, xOl, xB, xSo, xR, xK, sW, sRi, sXp, lEx, lWs, lMd, cU, cT, adU, fU, fU2]; done)
    | 29 => by
        by_cases h : j = j0 ∧ k = k0
        · obtain ⟨rfl, rfl⟩ := h; simp [aN, aL, aD, aS, aM, aE, sTop, sSk, sMa, sLe, lEx, lWs, lMd, cU, cT, adU, fU, fU2, yT, yS, yL, yA, yM, yO, yAn, yMn, oMap, hj, hk]
        · simp [aN, aL, aD, aS, aM, aE, sTop, sSk, sMa, sLe, lEx, lWs, lMd, cU, cT, adU, fU, fU2, yT, yS, yL, yA, yM, yO, yAn, yMn, oMap, h]
    | 30 => by
        by_cases h : j = j0 ∧ k = k0
        · obtain ⟨rfl, rfl⟩ := h; simp [aN, aL, aD, aS, aM, aE, sTop, sSk, sMa, sLe, lEx, lWs, lMd, cU, cT, adU, fU, fU2, yT, yS, yL, yA, yM, yO, yAn, yMn, oMap, hj, hk, mAn]
        · simp [aN, aL, aD, aS, aM, aE, sTop, sSk, sMa, sLe, lEx, lWs, lMd, cU, cT, adU, fU, fU2, yT, yS, yL, yA, yM, yO, yAn, yMn, oMap, h]
    | 31 => by
        by_cases h : j = j0 ∧ k = k0
        · obtain ⟨rfl, rfl⟩ := h; simp [aN, aL, aD, aS, aM, aE, sTop, sSk, sMa, sLe, lEx, lWs, lMd, cU, cT, adU, fU, fU2, yT, yS, yL, yA, yM, yO, yAn, yMn, oMap, hj, hk, hc, mAn]; exact rf_00
        · simp [aN, aL, aD, aS, aM, aE, sTop, sSk, sMa, sLe, lEx, lWs, lMd, cU, cT, adU, fU, fU2, yT, yS, yL, yA, yM, yO, yAn, yMn, oMap, h]
    | 32 => by first | rfl | (simp [aN, aL, aD, aS, aM, aE, sTop, sSk, sMa, sLe, xW, xLn, xOl, xB, xSo, xR, xK, sW, sRi, sXp, lEx, lWs, lMd, cU, cT, adU, fU, fU2]; done)
    | 33 => by first | rfl | (simp [aN, aL, aD, aS, aM, aE, sTop, sSk, sMa, sLe, xW, xLn, xOl, xB, xSo, xR, xK, sW, sRi, sXp, lEx, lWs, lMd, cU, cT, adU, fU, fU2]; done)
    | 34 => by first | rfl | (simp [aN, aL, aD, aS, aM, aE, sTop, sSk, sMa, sLe, xW, xLn, xOl, xB, xSo, xR, xK, sW, sRi, sXp, lEx, lWs, lMd, cU, cT, adU, fU, fU2]; done)
    | 35 => by first | rfl | (simp [aN, aL, aD, aS, aM, aE, sTop, sSk, sMa, sLe, xW, xLn, xOl, xB, xSo, xR, xK, sW, sRi, sXp, lEx, lWs, lMd, cU, cT, adU, fU, fU2]; done)
    | 36 => by first | rfl | (simp [aN, aL, aD, aS, aM, aE, sTop, sSk, sMa, sLe, xW, xLn, xOl, xB, xSo, xR, xK, sW, sRi, sXp, lEx, lWs, lMd, cU, cT, adU, fU, fU2]; done)
    | 37 => by first | rfl | (simp [aN, aL, aD, aS, aM, aE, sTop, sSk, sMa, sLe, xW, xLn, xOl, xB, xSo, xR, xK, sW, sRi, sXp, lEx, lWs, lMd, cU, cT, adU, fU, fU2]; done)
    | 38 => by first | rfl | (simp [aN, aL, aD, aS, aM, aE, sTop, sSk, sMa, sLe, xW, xLn, xOl, xB, xSo, xR, xK, sW, sRi, sXp, lEx, lWs, lMd, cU, cT, adU, fU, fU2]; done)
    | 39 => by first | rfl | (simp [aN, aL, aD, aS, aM, aE, sTop, sSk, sMa, sLe, xW, xLn, xOl, xB, xSo, xR, xK, sW, sRi, sXp, lEx, lWs, lMd, cU, cT, adU, fU, fU2]; done)
    | n + 40 => by first | rfl | simp [cU, cT])

set_option maxHeartbeats 2000000 in
theorem cT_s2 {G : mq_G} {ad : AD} {S : AT} {X : CX} {S2 : AT} {Y : MX} {O : OX} {j0 k0 : Nat} (o : Nat) (mc : Int32) (hc : (yA Y j0 k0).2 = 0) (hj : j0 < aL S2) (hk : k0 < 10) : cU (cU (cT G ad S X S2 Y O) 29 j0 k0 (cKn (o, o, [], mOp (aM S2 j0 k0), mRo (aM S2 j0 k0), mDu (aM S2 j0 k0)) (ad 30 j0 k0))) 30 j0 k0 (cLs mc (lsD G (yA Y j0 k0).2 (ad 31 j0 k0)) 0) = cT G ad S X (nsSet S2 j0 k0 o) (yAn Y j0 k0 (mc, (yA Y j0 k0).2)) O := by
  funext a j k
  exact (match a with
    | 0 => by first | rfl | (simp [aN, aL, aD, aS, aM, aE, sTop, sSk, sMa, sLe, xW, xLn, xOl, xB, xSo, xR, xK, sW, sRi, sXp, lEx, lWs, lMd, cU, cT, adU, fU, fU2]; done)
    | 1 => by first | rfl | (simp [aN, aL, aD, aS, aM, aE, sTop, sSk, sMa, sLe, xW, xLn, xOl, xB, xSo, xR, xK, sW, sRi, sXp, lEx, lWs, lMd, cU, cT, adU, fU, fU2]; done)
    | 2 => by first | rfl | (simp [aN, aL, aD, aS, aM, aE, sTop, sSk, sMa, sLe, xW, xLn, xOl, xB, xSo, xR, xK, sW, sRi, sXp, lEx, lWs, lMd, cU, cT, adU, fU, fU2]; done)
    | 3 => by first | rfl | (simp [aN, aL, aD, aS, aM, aE, sTop, sSk, sMa, sLe, xW, xLn, xOl, xB, xSo, xR, xK, sW, sRi, sXp, lEx, lWs, lMd, cU, cT, adU, fU, fU2]; done)
    | 4 => by first | rfl | (simp [aN, aL, aD, aS, aM, aE, sTop, sSk, sMa, sLe, xW, xLn, xOl, xB, xSo, xR, xK, sW, sRi, sXp, lEx, lWs, lMd, cU, cT, adU, fU, fU2]; done)
    | 5 => by first | rfl | (simp [aN, aL, aD, aS, aM, aE, sTop, sSk, sMa, sLe, xW, xLn, xOl, xB, xSo, xR, xK, sW, sRi, sXp, lEx, lWs, lMd, cU, cT, adU, fU, fU2]; done)
    | 6 => by first | rfl | (simp [aN, aL, aD, aS, aM, aE, sTop, sSk, sMa, sLe, xW, xLn, xOl, xB, xSo, xR, xK, sW, sRi, sXp, lEx, lWs, lMd, cU, cT, adU, fU, fU2]; done)
    | 7 => by first | rfl | (simp [aN, aL, aD, aS, aM, aE, sTop, sSk, sMa, sLe, xW, xLn, xOl, xB, xSo, xR, xK, sW, sRi, sXp, lEx, lWs, lMd, cU, cT, adU, fU, fU2]; done)
    | 8 => by first | rfl | (simp [aN, aL, aD, aS, aM, aE, sTop, sSk, sMa, sLe, xW, xLn, xOl, xB, xSo, xR, xK, sW, sRi, sXp, lEx, lWs, lMd, cU, cT, adU, fU, fU2]; done)
    | 9 => by first | rfl | (simp [aN, aL, aD, aS, aM, aE, sTop, sSk, sMa, sLe, xW, xLn, xOl, xB, xSo, xR, xK, sW, sRi, sXp, lEx, lWs, lMd, cU, cT, adU, fU, fU2]; done)
    | 10 => by first | rfl | (simp [aN, aL, aD, aS, aM, aE, sTop, sSk, sMa, sLe, xW, xLn, xOl, xB, xSo, xR, xK, sW, sRi, sXp, lEx, lWs, lMd, cU, cT, adU, fU, fU2]; done)
    | 11 => by first | rfl | (simp [aN, aL, aD, aS, aM, aE, sTop, sSk, sMa, sLe, xW, xLn, xOl, xB, xSo, xR, xK, sW, sRi, sXp, lEx, lWs, lMd, cU, cT, adU, fU, fU2]; done)
    | 12 => by first | rfl | (simp [aN, aL, aD, aS, aM, aE, sTop, sSk, sMa, sLe, xW, xLn, xOl, xB, xSo, xR, xK, sW, sRi, sXp, lEx, lWs, lMd, cU, cT, adU, fU, fU2]; done)
    | 13 => by first | rfl | (simp [aN, aL, aD, aS, aM, aE, sTop, sSk, sMa, sLe, xW, xLn, xOl, xB, xSo, xR, xK, sW, sRi, sXp, lEx, lWs, lMd, cU, cT, adU, fU, fU2]; done)
    | 14 => by first | rfl | (simp [aN, aL, aD, aS, aM, aE, sTop, sSk, sMa, sLe, xW, xLn, xOl, xB, xSo, xR, xK, sW, sRi, sXp, lEx, lWs, lMd, cU, cT, adU, fU, fU2]; done)
    | 15 => by first | rfl | (simp [aN, aL, aD, aS, aM, aE, sTop, sSk, sMa, sLe, xW, xLn, xOl, xB, xSo, xR, xK, sW, sRi, sXp, lEx, lWs, lMd, cU, cT, adU, fU, fU2]; done)
    | 16 => by first | rfl | (simp [aN, aL, aD, aS, aM, aE, sTop, sSk, sMa, sLe, xW, xLn, xOl, xB, xSo, xR, xK, sW, sRi, sXp, lEx, lWs, lMd, cU, cT, adU, fU, fU2]; done)
    | 17 => by first | rfl | (simp [aN, aL, aD, aS, aM, aE, sTop, sSk, sMa, sLe, xW, xLn, xOl, xB, xSo, xR, xK, sW, sRi, sXp, lEx, lWs, lMd, cU, cT, adU, fU, fU2]; done)
    | 18 => by first | rfl | (simp [aN, aL, aD, aS, aM, aE, sTop, sSk, sMa, sLe, xW, xLn, xOl, xB, xSo, xR, xK, sW, sRi, sXp, lEx, lWs, lMd, cU, cT, adU, fU, fU2]; done)
    | 19 => by first | rfl | (simp [aN, aL, aD, aS, aM, aE, sTop, sSk, sMa, sLe, xW, xLn, xOl, xB, xSo, xR, xK, sW, sRi, sXp, lEx, lWs, lMd, cU, cT, adU, fU, fU2]; done)
    | 20 => by first | rfl | (simp [aN, aL, aD, aS, aM, aE, sTop, sSk, sMa, sLe, xW, xLn, xOl, xB, xSo, xR, xK, sW, sRi, sXp, lEx, lWs, lMd, cU, cT, adU, fU, fU2]; done)
    | 21 => by first | rfl | (simp [aN, aL, aD, aS, aM, aE, sTop, sSk, sMa, sLe, xW, xLn, xOl, xB, xSo, xR, xK, sW, sRi, sXp, lEx, lWs, lMd, cU, cT, adU, fU, fU2]; done)
    | 22 => by first | rfl | (simp [aN, aL, aD, aS, aM, aE, sTop, sSk, sMa, sLe, xW, xLn, xOl, xB, xSo, xR, xK, sW, sRi, sXp, lEx, lWs, lMd, cU, cT, adU, fU, fU2]; done)
    | 23 => by first | rfl | (simp [aN, aL, aD, aS, aM, aE, sTop, sSk, sMa, sLe, xW, xLn, xOl, xB, xSo, xR, xK, sW, sRi, sXp, lEx, lWs, lMd, cU, cT, adU, fU, fU2]; done)
    | 24 => by first | rfl | (simp [aN, aL, aD, aS, aM, aE, sTop, sSk, sMa, sLe, xW, xLn, xOl, xB, xSo, xR, xK, sW, sRi, sXp, lEx, lWs, lMd, cU, cT, adU, fU, fU2]; done)
    | 25 => by first | rfl | (simp [aN, aL, aD, aS, aM, aE, sTop, sSk, sMa, sLe, xW, xLn, xOl, xB, xSo, xR, xK, sW, sRi, sXp, lEx, lWs, lMd, cU, cT, adU, fU, fU2]; done)
    | 26 => by first | rfl | (simp [aN, aL, aD, aS, aM, aE, sTop, sSk, sMa, sLe, xW, xLn, xOl, xB, xSo, xR, xK, sW, sRi, sXp, lEx, lWs, lMd, cU, cT, adU, fU, fU2]; done)
    | 27 => by first | rfl | (simp [aN, aL, aD, aS, aM, aE, sTop, sSk, sMa, sLe, xW, xLn, xOl, xB, xSo, xR, xK, sW, sRi, sXp, lEx, lWs, lMd, cU, cT, adU, fU, fU2]; done)
    | 28 => by first | rfl | (simp [aN, aL, aD, aS, aM, aE, sTop, sSk, sMa, sLe, xW, xLn, xOl, xB, xSo, xR, xK, sW, sRi, sXp, lEx, lWs, lMd, cU, cT, adU, fU, fU2]; done)
    | 29 => by
        by_cases h : j = j0 ∧ k = k0
        · obtain ⟨rfl, rfl⟩ := h; simp [aN, aL, aD, aS, aM, aE, sTop, sSk, sMa, sLe, lEx, lWs, lMd, cU, cT, adU, fU, fU2, yT, yS, yL, yA, yM, yO, yAn, yMn, oMap, hj, hk]
        · simp [aN, aL, aD, aS, aM, aE, sTop, sSk, sMa, sLe, lEx, lWs, lMd, cU, cT, adU, fU, fU2, yT, yS, yL, yA, yM, yO, yAn, yMn, oMap, h]
    | 30 => by
        by_cases h : j = j0 ∧ k = k0
        · obtain ⟨rfl, rfl⟩ := h; simp [aN, aL, aD, aS, aM, aE, sTop, sSk, sMa, sLe, lEx, lWs, lMd, cU, cT, adU, fU, fU2, yT, yS, yL, yA, yM, yO, yAn, yMn, oMap, hj, hk, mAn]
        · simp [aN, aL, aD, aS, aM, aE, sTop, sSk, sMa, sLe, lEx, lWs, lMd, cU, cT, adU, fU, fU2, yT, yS, yL, yA, yM, yO, yAn, yMn, oMap, h]
    | 31 => by
        by_cases h : j = j0 ∧ k = k0
        · obtain ⟨rfl, rfl⟩ := h; simp [aN, aL, aD, aS, aM, aE, sTop, sSk, sMa, sLe, lEx, lWs, lMd, cU, cT, adU, fU, fU2, yT, yS, yL, yA, yM, yO, yAn, yMn, oMap, hj, hk, hc, mAn]
        · simp [aN, aL, aD, aS, aM, aE, sTop, sSk, sMa, sLe, lEx, lWs, lMd, cU, cT, adU, fU, fU2, yT, yS, yL, yA, yM, yO, yAn, yMn, oMap, h]
    | 32 => by first | rfl | (simp [aN, aL, aD, aS, aM, aE, sTop, sSk, sMa, sLe, xW, xLn, xOl, xB, xSo, xR, xK, sW, sRi, sXp, lEx, lWs, lMd, cU, cT, adU, fU, fU2]; done)
    | 33 => by first | rfl | (simp [aN, aL, aD, aS, aM, aE, sTop, sSk, sMa, sLe, xW, xLn, xOl, xB, xSo, xR, xK, sW, sRi, sXp, lEx, lWs, lMd, cU, cT, adU, fU, fU2]; done)
    | 34 => by first | rfl | (simp [aN, aL, aD, aS, aM, aE, sTop, sSk, sMa, sLe, xW, xLn, xOl, xB, xSo, xR, xK, sW, sRi, sXp, lEx, lWs, lMd, cU, cT, adU, fU, fU2]; done)
    | 35 => by first | rfl | (simp [aN, aL, aD, aS, aM, aE, sTop, sSk, sMa, sLe, xW, xLn, xOl, xB, xSo, xR, xK, sW, sRi, sXp, lEx, lWs, lMd, cU, cT, adU, fU, fU2]; done)
    | 36 => by first | rfl | (simp [aN, aL, aD, aS, aM, aE, sTop, sSk, sMa, sLe, xW, xLn, xOl, xB, xSo, xR, xK, sW, sRi, sXp, lEx, lWs, lMd, cU, cT, adU, fU, fU2]; done)
    | 37 => by first | rfl | (simp [aN, aL, aD, aS, aM, aE, sTop, sSk, sMa, sLe, xW, xLn, xOl, xB, xSo, xR, xK, sW, sRi, sXp, lEx, lWs, lMd, cU, cT, adU, fU, fU2]; done)
    | 38 => by first | rfl | (simp [aN, aL, aD, aS, aM, aE, sTop, sSk, sMa, sLe, xW, xLn, xOl, xB, xSo, xR, xK, sW, sRi, sXp, lEx, lWs, lMd, cU, cT, adU, fU, fU2]; done)
    | 39 => by first | rfl | (simp [aN, aL, aD, aS, aM, aE, sTop, sSk, sMa, sLe, xW, xLn, xOl, xB, xSo, xR, xK, sW, sRi, sXp, lEx, lWs, lMd, cU, cT, adU, fU, fU2]; done)
    | n + 40 => by first | rfl | simp [cU, cT])

theorem WR_kn {G : mq_G} {f g : mq_F} {ad : AD} {S : AT} {X : CX} {S2 : AT} {Y : MX} {O : OX} {j k : Nat} (hR : WR G f ad S X S2 Y O) (v : maT) (hv : mAn v = mAn (aM S2 j k)) (hj : j < aL S2) (hk : k < 10) (hg : g = mq_up f (ad 29 j k) (cKn v (ad 30 j k))) : WR G g ad S X (sMa S2 j k v) Y O := by
  have h := RR.put hR (t29 hj hk) rfl hg
  rw [cT_kn1 v hv hj hk] at h; exact h
theorem WR_set {G : mq_G} {f g : mq_F} {ad : AD} {S : AT} {X : CX} {S2 : AT} {Y : MX} {O : OX} {f1 f2 : mq_F} {j k o : Nat} {z : va_E} {gg : Nat → Nat} (hR : WR G f ad S X S2 Y O) (hj : j < aL S2) (hk : k < 10) (h1 : f1 = mq_up f (ad 29 j k) z) (h2 : f2 = mq_up f1 (ad 29 j k) (cKn (o, o, [], mOp (aM S2 j k), mRo (aM S2 j k), mDu (aM S2 j k)) (ad 30 j k)))
    (hp : g (ad 30 j k) = some (cLs ((yA Y j k).1 + 1) (lsD G (yA Y j k).2 (ad 31 j k)) 0) ∧ ((yA Y j k).2 ≠ 0 → g (ad 31 j k) = some (cRf (G.2 8) (yA Y j k).2 (rf_of 0 gg))) ∧ ∀ y, y ≠ ad 30 j k → ((yA Y j k).2 ≠ 0 → y ≠ ad 31 j k) → g y = f2 y) : WR G g ad S X (nsSet S2 j k o) (yAn Y j k ((yA Y j k).1 + 1, (yA Y j k).2)) O := by
  obtain ⟨hx, hd, ho⟩ := hp
  have h3 : f2 = mq_up f (ad 29 j k) (cKn (o, o, [], mOp (aM S2 j k), mRo (aM S2 j k), mDu (aM S2 j k)) (ad 30 j k)) := by rw [h2, h1, mq_uu]
  have r1 := RR.put hR (t29 hj hk) rfl h3
  by_cases hc : (yA Y j k).2 = 0
  · have hg : g = mq_up f2 (ad 30 j k) (cLs ((yA Y j k).1 + 1) (lsD G (yA Y j k).2 (ad 31 j k)) 0) := by
      funext y
      by_cases hy : y = ad 30 j k
      · rw [hy, hx]; exact mq_up_s.symm
      · rw [mq_up_n hy]; exact ho y hy (fun q => absurd hc q)
    have r2 := RR.put r1 (a := 30) (j := j) (k := k) ((cU_n (by simp)).trans (t30 hj hk)) rfl hg
    rw [cT_s2 o _ hc hj hk] at r2; exact r2
  · have hne : ad 31 j k ≠ ad 30 j k := RR.ne hR (t31 hc hj hk) (t30 hj hk) rfl (by simp)
    have hg : g = mq_up (mq_up f2 (ad 31 j k) (cRf (G.2 8) (yA Y j k).2 (rf_of 0 gg))) (ad 30 j k) (cLs ((yA Y j k).1 + 1) (lsD G (yA Y j k).2 (ad 31 j k)) 0) := by
      funext y
      by_cases hy : y = ad 30 j k
      · rw [hy, hx]; exact mq_up_s.symm
      · rw [mq_up_n hy]
        by_cases hy2 : y = ad 31 j k
        · rw [hy2, hd hc]; exact mq_up_s.symm
        · rw [mq_up_n hy2]; exact ho y hy (fun _ => hy2)
    have r2 := RR.put r1 (a := 31) (j := j) (k := k) ((cU_n (by simp)).trans (t31 hc hj hk)) rfl (e := cRf (G.2 8) (yA Y j k).2 (rf_of 0 gg)) (g := mq_up f2 (ad 31 j k) _) rfl
    have r3 := RR.put r2 (a := 30) (j := j) (k := k) ((cU_n (by simp)).trans ((cU_n (by simp)).trans (t30 hj hk))) rfl hg
    rw [cT_s3 o _ gg hc hj hk] at r3; exact r3

set_option maxHeartbeats 4000000 in
set_option maxRecDepth 100000 in
theorem c_X11_open (l : Launch) (G : mq_G) (A : Nat → Prop) (f : mq_F) (ad : AD) (S : AT) (X : CX) (S2 : AT) (Y : MX) (O : OX) (T : Nat) (ua ub : Int32) : Met l yX11_open wsX11_open ({ frames := 12, cells := 0, slots := 0, locals := 230 } : Room) (mq_Pc G A f (WR G f ad S X S2 Y O ∧ mOK S2 Y T) [.ref (ad 20 0 0), .int ua, .int ub]) (mq_Qi G A (fun r g => ∃ c9 S9 Y9 ad9, spOpen S2 ua ub = (c9, r, S9) ∧ WR G g ad9 S X S9 (yThr Y9 (nI c9)) O ∧ mCp S9 Y9 ∧ adK ad ad9)) 0 0 A := by
  refine Met.ofW (cc := cX11_open) (maxL := 4) (ret := (some .boolean)) (by decide) rfl ?_
  intro p e s m args below meth c s₁ B hml hv
  obtain ⟨rfl, ⟨hK, hZ, hM, hA⟩, hp⟩ := hv
  have hx := B.exec
  have hb := B.bytes
  have hr := B.returns
  have hts := atoms_spec (ws := wsX11_open) B.pre
  have hown : s.vm.findClass RX11 = some m.cls := findClass_of_methodNamed B.named
  have hlocks := B.notSynchronized
  have hS : va_S A s.heap s.heap [] := va_S.rf
  have hl := lv_entry ([.ref (ad 20 0 0), .int ua, .int ub]) (n := 4) (Nat.le_of_ble_eq_true rfl)
  rw [lg_entry_eq]
  generalize (lg_sl ([.ref (ad 20 0 0), .int ua, .int ub]) ++ List.replicate (4 - (lg_sl ([.ref (ad 20 0 0), .int ua, .int ub])).length) Slot.unset).toArray = ls at hl ⊢
  have hl : lv_has ls 4 [(0, .ref (ad 20 0 0)), (1, .int ua), (2, .int ub)] := hl
  have w0 := hts (.fieldLink RX11 19 "TutorlightModel" "thrown" "I") (List.mem_of_getElem? (i := 1) rfl)
  have w1 := hts (.fieldLink RX11 86 "TutorlightModel$Known" "isOpened" "Z") (List.mem_of_getElem? (i := 2) rfl)
  have nX11 : ∀ w ∈ wsX110, w ∈ wsX11_open := fun _ h => List.mem_cons_of_mem _ (List.mem_append_left _ (List.mem_append_left _ (List.mem_append_left _ (List.mem_append_left _ (List.mem_append_left _ (List.mem_append_right _ h))))))
  have nX8 : ∀ w ∈ wsX80, w ∈ wsX11_open := fun _ h => List.mem_cons_of_mem _ (List.mem_append_left _ (List.mem_append_left _ (List.mem_append_left _ (List.mem_append_left _ (List.mem_append_right _ h)))))
  obtain ⟨hR, hO⟩ := hp
  obtain ⟨⟨X9, ⟨hn, hl4, hd2, hT⟩, hsk, hma, hdc, hle, -⟩, ⟨hns, hnc⟩, ⟨hls, hlc⟩, hac, hmc⟩ := id hO
  have y20_259 := hR.1 _ _ _ _ (t20)
  refine lv_aload_n hx hb dX11_open_0 rfl (lv_at hl 0 rfl) ?_
  refine lv_iconst (v := 0) hx hb dX11_open_1 (by decide) ?_
  refine mq_put (ci := 16) (v := .int 0) (ty := .int) (C := RX11) (T := TX11) (N := 4) (fs' := [.int 0, .int (nI (aD S2)), .ref (ad 21 0 0), .ref (ad 23 0 0)]) hx hb hts nX11 tyX11 tyX11_ok nmX11 hown hK hM hS y20_259 rfl 0 (by decide) w0 (fun _ h9 => h9) rfl (by decide +kernel) rfl rfl (Nat.le_of_ble_eq_true rfl) dX11_open_2 rfl (fun f_1 H locs e_2 hM hS => ?_)
  have h_3 : f_1 (ad 20 0 0) = some (.inr (16, [.int 0, .int (nI (aD S2)), .ref (ad 21 0 0), .ref (ad 23 0 0)])) := mq_s e_2
  have hR1 := WR_yt hR e_2
  refine lv_aload_n hx hb dX11_open_5 rfl (lv_at hl 0 rfl) ?_
  refine lv_iload_n hx hb dX11_open_6 rfl (lv_at hl 1 rfl) ?_
  refine lv_iload_n hx hb dX11_open_7 rfl (lv_at hl 2 rfl) ?_
  refine mq_calli (va_runV (As := [.int ua, .int ub]) (rest := []) ⟨hx, hb, hml, hown, hts⟩ (c_X11_no l G A f_1 ad S X S2 (yThr Y 0) O T ua ub) (cwV 2 hts gX11_open_X11_no rfl rfl rfl (by decide +kernel) ⟨Nat.le_of_ble_eq_true rfl, Nat.le_of_ble_eq_true rfl⟩) (mq_preV hK hZ hS hA hM (q := (RX11, TX11, 4)) h_3 rfl (⟨hR1, hO.thr 0, rfl⟩) _) rfl rfl hl.1 rfl (lv_room (Nat.le_of_ble_eq_true rfl)) dX11_open_8 ⟨Nat.le_of_ble_eq_true rfl, Nat.le_of_ble_eq_true rfl⟩) hS (fun r8 g8 H locs p8 hM hS => ?_)
  refine W.widen (k := 0) (n := 0) (Nat.le_of_ble_eq_true rfl) (Nat.le_of_ble_eq_true rfl) ?_
  refine lv_if_eq (tgt := 16) hx hb dX11_open_11 (by decide) (fun c_11 => ?_) (fun c_11 => ?_)
  · obtain ⟨rfl, j, k, hj, hk, rfl, rfl⟩ := no_0 p8 c_11
    refine lv_aload_n hx hb dX11_open_16 rfl (lv_at hl 0 rfl) ?_
    refine lv_iload_n hx hb dX11_open_17 rfl (lv_at hl 1 rfl) ?_
    refine lv_iload_n hx hb dX11_open_18 rfl (lv_at hl 2 rfl) ?_
    refine mq_calli (va_runV (As := [.int (nI j), .int (nI k)]) (rest := []) ⟨hx, hb, hml, hown, hts⟩ (c_X11_openFor l G A f_1 ad S X S2 (yThr Y 0) O T j k) (cwV 2 hts gX11_open_X11_openFor rfl rfl rfl (by decide +kernel) ⟨Nat.le_of_ble_eq_true rfl, Nat.le_of_ble_eq_true rfl⟩) (mq_preV hK hZ hS hA hM (q := (RX11, TX11, 4)) h_3 rfl (⟨hR1, hO.thr 0, hj, hk⟩) _) rfl rfl hl.1 rfl (lv_room (Nat.le_of_ble_eq_true rfl)) dX11_open_19 ⟨Nat.le_of_ble_eq_true rfl, Nat.le_of_ble_eq_true rfl⟩) hS (fun r19 g19 H locs p19 hM hS => ?_)
    refine W.widen (k := 0) (n := 0) (Nat.le_of_ble_eq_true rfl) (Nat.le_of_ble_eq_true rfl) ?_
    obtain ⟨rfl, rfl⟩ := p19
    refine lv_istore_n (lv' := [(3, .int (zb (opn S2 j k))), (0, .ref (ad 20 0 0)), (1, .int (nI j)), (2, .int (nI k))]) hx hb dX11_open_22 rfl hl (by decide) rfl (fun ls hl => ?_)
    refine lv_aload_n hx hb dX11_open_23 rfl (lv_at hl 1 rfl) ?_
    refine lv_iload_n hx hb dX11_open_24 rfl (lv_at hl 2 rfl) ?_
    refine lv_iload_n hx hb dX11_open_25 rfl (lv_at hl 3 rfl) ?_
    refine mq_callq (va_runV (As := [.int (nI j), .int (nI k)]) (rest := []) ⟨hx, hb, hml, hown, hts⟩ (c_X11_of l G A f_1 ad S X S2 (yThr Y 0) O T j k) (cwV 2 hts gX11_open_X11_of rfl rfl rfl (by decide +kernel) ⟨Nat.le_of_ble_eq_true rfl, Nat.le_of_ble_eq_true rfl⟩) (mq_preV hK hZ hS hA hM (q := (RX11, TX11, 4)) h_3 rfl (⟨hR1, (hO.thr 0), hj, by omega⟩) _) rfl rfl hl.1 rfl (lv_room (Nat.le_of_ble_eq_true rfl)) dX11_open_26 ⟨Nat.le_of_ble_eq_true rfl, Nat.le_of_ble_eq_true rfl⟩) hS (fun r26 g26 H locs p26 hM hS => ?_)
    refine W.widen (k := 0) (n := 0) (Nat.le_of_ble_eq_true rfl) (Nat.le_of_ble_eq_true rfl) ?_
    obtain ⟨rfl, rfl⟩ := p26
    have y29_258 := hR1.1 _ _ _ _ (t29 (j := j) (k := k) hj (by omega))
    refine lv_iconst (v := 1) hx hb dX11_open_29 (by decide) ?_
    refine mq_put (ci := 13) (v := .int 1) (ty := .boolean) (C := RX8) (T := TX8) (N := 6) (fs' := [.int (nI (mOd (aM S2 j k))), .int (nI (mTo (aM S2 j k))), .ref (ad 30 j k), .int 1, .int (nI (mRo (aM S2 j k))), .int (du (mDu (aM S2 j k)))]) hx hb hts nX8 tyX8 tyX8_ok nmX8 hown hK hM hS y29_258 rfl 3 (by decide) w1 (fun _ h9 => h9) rfl (by decide +kernel) rfl rfl (Nat.le_of_ble_eq_true rfl) dX11_open_30 rfl (fun f_4 H locs e_5 hM hS => ?_)
    have h_6 : f_4 (ad 20 0 0) = some (.inr (16, [.int 0, .int (nI (aD S2)), .ref (ad 21 0 0), .ref (ad 23 0 0)])) := mq_n e_5 h_3 (mq_neO h_3 y29_258 (by decide))
    have h_7 : f_4 (ad 29 j k) = some (.inr (13, [.int (nI (mOd (aM S2 j k))), .int (nI (mTo (aM S2 j k))), .ref (ad 30 j k), .int 1, .int (nI (mRo (aM S2 j k))), .int (du (mDu (aM S2 j k)))])) := mq_s e_5
    have hR2 := WR_kn hR1 (mOd (aM S2 j k), mTo (aM S2 j k), mAn (aM S2 j k), true, mRo (aM S2 j k), mDu (aM S2 j k)) rfl hj (by omega) e_5
    refine lv_iload_n hx hb dX11_open_33 rfl (lv_at hl 0 rfl) ?_
    refine lv_if_ne (tgt := 41) hx hb dX11_open_34 (by decide) (fun c_34 => ?_) (fun c_34 => ?_)
    · replace c_34 : ¬ zb (opn S2 j k) = 0 := c_34
      rw [zb_n0] at c_34
      refine lv_iconst (v := 0) hx hb dX11_open_41 (by decide) ?_
      exact mq_zret (v := 0) hx hb hr (rfl) hlocks hM hS (⟨0, nsOpen S2 j k, Y, ad, (spLS_y hj hk hl4 hn).trans (by rw [c_34]; rfl), hR2, mCp_ma hO.2 rfl, adK_id⟩) dX11_open_42
    · replace c_34 : zb (opn S2 j k) = 0 := c_34
      rw [zb_0] at c_34
      refine lv_iconst (v := 1) hx hb dX11_open_37 (by decide) ?_
      refine lv_goto (tgt := 42) hx hb dX11_open_38 (by decide) ?_
      exact mq_zret (v := 1) hx hb hr (rfl) hlocks hM hS (⟨0, nsOpen S2 j k, Y, ad, (spLS_y hj hk hl4 hn).trans (by rw [c_34]; rfl), hR2, mCp_ma hO.2 rfl, adK_id⟩) dX11_open_42
  · obtain ⟨hno, hR9⟩ := no_1 p8 c_11
    refine lv_iconst (v := 0) hx hb dX11_open_14 (by decide) ?_
    exact mq_zret (v := 0) hx hb hr (rfl) hlocks hM hS (⟨1, S2, Y, ad, spLS_n hno, hR9, hO.2, adK_id⟩) dX11_open_15

set_option maxHeartbeats 4000000 in
set_option maxRecDepth 100000 in
theorem c_X11_setOdds (l : Launch) (G : mq_G) (A : Nat → Prop) (f : mq_F) (ad : AD) (S : AT) (X : CX) (S2 : AT) (Y : MX) (O : OX) (T : Nat) (ua ub o : Int32) : Met l yX11_setOdds wsX11_setOdds ({ frames := 11, cells := 0, slots := 0, locals := 206 } : Room) (mq_Pc G A f (WR G f ad S X S2 Y O ∧ mOK S2 Y T) [.ref (ad 20 0 0), .int ua, .int ub, .int o]) (mq_Qi G A (fun r g => ∃ c9 S9 Y9 ad9, spSet S2 ua ub o = (c9, r, S9) ∧ WR G g ad9 S X S9 (yThr Y9 (nI c9)) O ∧ mCp S9 Y9 ∧ adK ad ad9)) 0 0 A := by
  refine Met.ofW (cc := cX11_setOdds) (maxL := 6) (ret := (some .int)) (by decide) rfl ?_
  intro p e s m args below meth c s₁ B hml hv
  obtain ⟨rfl, ⟨hK, hZ, hM, hA⟩, hp⟩ := hv
  have hx := B.exec
  have hb := B.bytes
  have hr := B.returns
  have hts := atoms_spec (ws := wsX11_setOdds) B.pre
  have hown : s.vm.findClass RX11 = some m.cls := findClass_of_methodNamed B.named
  have hlocks := B.notSynchronized
  have hS : va_S A s.heap s.heap [] := va_S.rf
  have hl := lv_entry ([.ref (ad 20 0 0), .int ua, .int ub, .int o]) (n := 6) (Nat.le_of_ble_eq_true rfl)
  rw [lg_entry_eq]
  generalize (lg_sl ([.ref (ad 20 0 0), .int ua, .int ub, .int o]) ++ List.replicate (6 - (lg_sl ([.ref (ad 20 0 0), .int ua, .int ub, .int o])).length) Slot.unset).toArray = ls at hl ⊢
  have hl : lv_has ls 6 [(0, .ref (ad 20 0 0)), (1, .int ua), (2, .int ub), (3, .int o)] := hl
  have w0 := hts (.fieldLink RX11 19 "TutorlightModel" "thrown" "I") (List.mem_of_getElem? (i := 1) rfl)
  have w1 := hts (.fieldLink RX11 81 "TutorlightModel$Known" "odds" "I") (List.mem_of_getElem? (i := 2) rfl)
  have w2 := hts (.fieldLink RX11 98 "TutorlightModel$Known" "base" "I") (List.mem_of_getElem? (i := 3) rfl)
  have w3 := hts (.fieldLink RX11 101 "TutorlightModel$Known" "answers" "Ljava/util/ArrayList;") (List.mem_of_getElem? (i := 4) rfl)
  have nX11 : ∀ w ∈ wsX110, w ∈ wsX11_setOdds := fun _ h => List.mem_cons_of_mem _ (List.mem_append_left _ (List.mem_append_left _ (List.mem_append_left _ (List.mem_append_right _ h))))
  have nX8 : ∀ w ∈ wsX80, w ∈ wsX11_setOdds := fun _ h => List.mem_cons_of_mem _ (List.mem_append_left _ (List.mem_append_left _ (List.mem_append_right _ h)))
  obtain ⟨hR, hO⟩ := hp
  obtain ⟨⟨X9, ⟨hn, hl4, hd2, hT⟩, hsk, hma, hdc, hle, -⟩, ⟨hns, hnc⟩, ⟨hls, hlc⟩, hac, hmc⟩ := id hO
  have y20_262 := hR.1 _ _ _ _ (t20)
  refine lv_aload_n hx hb dX11_setOdds_0 rfl (lv_at hl 0 rfl) ?_
  refine lv_iconst (v := 0) hx hb dX11_setOdds_1 (by decide) ?_
  refine mq_put (ci := 16) (v := .int 0) (ty := .int) (C := RX11) (T := TX11) (N := 4) (fs' := [.int 0, .int (nI (aD S2)), .ref (ad 21 0 0), .ref (ad 23 0 0)]) hx hb hts nX11 tyX11 tyX11_ok nmX11 hown hK hM hS y20_262 rfl 0 (by decide) w0 (fun _ h9 => h9) rfl (by decide +kernel) rfl rfl (Nat.le_of_ble_eq_true rfl) dX11_setOdds_2 rfl (fun f_1 H locs e_2 hM hS => ?_)
  have h_3 : f_1 (ad 20 0 0) = some (.inr (16, [.int 0, .int (nI (aD S2)), .ref (ad 21 0 0), .ref (ad 23 0 0)])) := mq_s e_2
  have hR1 := WR_yt hR e_2
  refine lv_aload_n hx hb dX11_setOdds_5 rfl (lv_at hl 0 rfl) ?_
  refine lv_iload_n hx hb dX11_setOdds_6 rfl (lv_at hl 1 rfl) ?_
  refine lv_iload_n hx hb dX11_setOdds_7 rfl (lv_at hl 2 rfl) ?_
  refine mq_calli (va_runV (As := [.int ua, .int ub]) (rest := []) ⟨hx, hb, hml, hown, hts⟩ (c_X11_no l G A f_1 ad S X S2 (yThr Y 0) O T ua ub) (cwV 2 hts gX11_setOdds_X11_no rfl rfl rfl (by decide +kernel) ⟨Nat.le_of_ble_eq_true rfl, Nat.le_of_ble_eq_true rfl⟩) (mq_preV hK hZ hS hA hM (q := (RX11, TX11, 4)) h_3 rfl (⟨hR1, hO.thr 0, rfl⟩) _) rfl rfl hl.1 rfl (lv_room (Nat.le_of_ble_eq_true rfl)) dX11_setOdds_8 ⟨Nat.le_of_ble_eq_true rfl, Nat.le_of_ble_eq_true rfl⟩) hS (fun r8 g8 H locs p8 hM hS => ?_)
  refine W.widen (k := 0) (n := 0) (Nat.le_of_ble_eq_true rfl) (Nat.le_of_ble_eq_true rfl) ?_
  refine lv_if_ne (tgt := 38) hx hb dX11_setOdds_11 (by decide) (fun c_11 => ?_) (fun c_11 => ?_)
  · obtain ⟨hno, hR9⟩ := no_1 p8 c_11
    refine lv_iconst (v := 0) hx hb dX11_setOdds_38 (by decide) ?_
    exact mq_iret (v := 0) hx hb hr hlocks hM hS (⟨1, S2, Y, ad, spLS_n hno, hR9, hO.2, adK_id⟩) dX11_setOdds_39
  · obtain ⟨rfl, j, k, hj, hk, rfl, rfl⟩ := no_0 p8 c_11
    refine lv_aload_n hx hb dX11_setOdds_14 rfl (lv_at hl 0 rfl) ?_
    refine lv_iload_n hx hb dX11_setOdds_15 rfl (lv_at hl 3 rfl) ?_
    refine lv_iconst (v := 0) hx hb dX11_setOdds_16 (by decide) ?_
    refine lv_sipush (v := 1000) hx hb dX11_setOdds_17 (by decide) ?_
    refine mq_calli (va_runS (As := [.int o, .int 0, .int 1000]) (rest := [.ref (ad 20 0 0)]) ⟨hx, hb, hml, hown, hts⟩ (c_X11_in l G A f_1 o 0 1000) (va_cwS 3 hts gX11_setOdds_X11_in rfl rfl rfl (by decide +kernel) ⟨Nat.le_of_ble_eq_true rfl, Nat.le_of_ble_eq_true rfl⟩) (mq_preS hK hZ hS hA hM (trivial) _) rfl rfl hl.1 rfl (lv_room (Nat.le_of_ble_eq_true rfl)) dX11_setOdds_20 ⟨Nat.le_of_ble_eq_true rfl, Nat.le_of_ble_eq_true rfl⟩) hS (fun r20 g20 H locs p20 hM hS => ?_)
    refine W.widen (k := 0) (n := 0) (Nat.le_of_ble_eq_true rfl) (Nat.le_of_ble_eq_true rfl) ?_
    obtain ⟨rfl, rfl⟩ := p20
    rw [show inB o 0 1000 = vI o 1001 from inB_vI (n := 1001) (by decide)]
    refine lv_if_ne (tgt := 30) hx hb dX11_setOdds_23 (by decide) (fun c_23 => ?_) (fun c_23 => ?_)
    · replace c_23 : ¬ zb (vI o 1001) = 0 := c_23
      rw [zb_n0] at c_23
      obtain ⟨w, hw, rfl⟩ := vI_ex1 c_23
      refine lv_iconst (v := 0) hx hb dX11_setOdds_30 (by decide) ?_
      refine lv_iconst (v := 2) hx hb dX11_setOdds_31 (by decide) ?_
      refine mq_calli (va_runV (As := [.int 0, .int 2]) (rest := []) ⟨hx, hb, hml, hown, hts⟩ (c_X11_fails l G A f_1 (ad 20 0 0) false 2 0 (nI (aD S2)) (ad 21 0 0) (ad 23 0 0)) (cwV 2 hts gX11_setOdds_X11_fails rfl rfl rfl (by decide +kernel) ⟨Nat.le_of_ble_eq_true rfl, Nat.le_of_ble_eq_true rfl⟩) (mq_preV hK hZ hS hA hM (q := (RX11, TX11, 4)) h_3 rfl (h_3) _) rfl rfl hl.1 rfl (lv_room (Nat.le_of_ble_eq_true rfl)) dX11_setOdds_32 ⟨Nat.le_of_ble_eq_true rfl, Nat.le_of_ble_eq_true rfl⟩) hS (fun r32 g32 H locs p32 hM hS => ?_)
      refine W.widen (k := 0) (n := 0) (Nat.le_of_ble_eq_true rfl) (Nat.le_of_ble_eq_true rfl) ?_
      obtain ⟨hg, hr9⟩ := p32
      obtain rfl := fl_0 h_3 hg
      rw [hr9, show zb (decide (fT false 0 2 ≠ 0)) = 0 from by decide]
      refine lv_if_eq (tgt := 40) hx hb dX11_setOdds_35 (by decide) (fun c_35 => ?_) (fun c_35 => absurd c_35 (by decide))
      refine lv_aload_n hx hb dX11_setOdds_40 rfl (lv_at hl 0 rfl) ?_
      refine lv_iload_n hx hb dX11_setOdds_41 rfl (lv_at hl 1 rfl) ?_
      refine lv_iload_n hx hb dX11_setOdds_42 rfl (lv_at hl 2 rfl) ?_
      refine mq_callq (va_runV (As := [.int (nI j), .int (nI k)]) (rest := []) ⟨hx, hb, hml, hown, hts⟩ (c_X11_of l G A f_1 ad S X S2 (yThr Y 0) O T j k) (cwV 2 hts gX11_setOdds_X11_of rfl rfl rfl (by decide +kernel) ⟨Nat.le_of_ble_eq_true rfl, Nat.le_of_ble_eq_true rfl⟩) (mq_preV hK hZ hS hA hM (q := (RX11, TX11, 4)) h_3 rfl (⟨hR1, (hO.thr 0), hj, by omega⟩) _) rfl rfl hl.1 rfl (lv_room (Nat.le_of_ble_eq_true rfl)) dX11_setOdds_43 ⟨Nat.le_of_ble_eq_true rfl, Nat.le_of_ble_eq_true rfl⟩) hS (fun r43 g43 H locs p43 hM hS => ?_)
      refine W.widen (k := 0) (n := 0) (Nat.le_of_ble_eq_true rfl) (Nat.le_of_ble_eq_true rfl) ?_
      obtain ⟨rfl, rfl⟩ := p43
      refine lv_astore (lv' := [(4, .ref (ad 29 j k)), (0, .ref (ad 20 0 0)), (1, .int (nI j)), (2, .int (nI k)), (3, .int (nI w))]) hx hb dX11_setOdds_46 hl (by decide) rfl (fun ls hl => ?_)
      have hac1 := hac j k hj (by omega)
      have y29_260 := hR1.1 _ _ _ _ (t29 (j := j) (k := k) hj (by omega))
      have y30_261 := hR1.1 _ _ _ _ (t30 (j := j) (k := k) hj (by omega))
      refine lv_aload hx hb dX11_setOdds_48 (lv_at hl 0 rfl) ?_
      refine mq_get (ci := 13) (v := .int (nI (mOd (aM S2 j k)))) (C := RX8) (T := TX8) (N := 6) hx hb hts nX8 hown hK hM y29_260 rfl 0 (by decide) w1 (fun _ h9 => h9) rfl dX11_setOdds_50 ?_
      refine lv_istore (lv' := [(5, .int (nI (mOd (aM S2 j k)))), (4, .ref (ad 29 j k)), (0, .ref (ad 20 0 0)), (1, .int (nI j)), (2, .int (nI k)), (3, .int (nI w))]) hx hb dX11_setOdds_53 hl (by decide) rfl (fun ls hl => ?_)
      refine lv_aload hx hb dX11_setOdds_55 (lv_at hl 1 rfl) ?_
      refine lv_iload_n hx hb dX11_setOdds_57 rfl (lv_at hl 5 rfl) ?_
      refine mq_put (ci := 13) (v := .int (nI w)) (ty := .int) (C := RX8) (T := TX8) (N := 6) (fs' := [.int (nI w), .int (nI (mTo (aM S2 j k))), .ref (ad 30 j k), .int (zb (mOp (aM S2 j k))), .int (nI (mRo (aM S2 j k))), .int (du (mDu (aM S2 j k)))]) hx hb hts nX8 tyX8 tyX8_ok nmX8 hown hK hM hS y29_260 rfl 0 (by decide) w1 (fun _ h9 => h9) rfl (by decide +kernel) rfl rfl (Nat.le_of_ble_eq_true rfl) dX11_setOdds_58 rfl (fun f_4 H locs e_5 hM hS => ?_)
      have h_6 : f_4 (ad 20 0 0) = some (.inr (16, [.int 0, .int (nI (aD S2)), .ref (ad 21 0 0), .ref (ad 23 0 0)])) := mq_n e_5 h_3 (mq_neO h_3 y29_260 (by decide))
      have h_7 : f_4 (ad 30 j k) = some (.inr (4, [.int ((yA Y j k).1), .ref (lsD G (yA Y j k).2 (ad 31 j k)), .int (nI ((mAn (aM S2 j k)).length))])) := mq_n e_5 y30_261 (mq_neO y30_261 y29_260 (by decide))
      have h_8 : f_4 (ad 29 j k) = some (.inr (13, [.int (nI w), .int (nI (mTo (aM S2 j k))), .ref (ad 30 j k), .int (zb (mOp (aM S2 j k))), .int (nI (mRo (aM S2 j k))), .int (du (mDu (aM S2 j k)))])) := mq_s e_5
      refine lv_aload hx hb dX11_setOdds_61 (lv_at hl 1 rfl) ?_
      refine lv_iload_n hx hb dX11_setOdds_63 rfl (lv_at hl 5 rfl) ?_
      refine mq_put (ci := 13) (v := .int (nI w)) (ty := .int) (C := RX8) (T := TX8) (N := 6) (fs' := [.int (nI w), .int (nI w), .ref (ad 30 j k), .int (zb (mOp (aM S2 j k))), .int (nI (mRo (aM S2 j k))), .int (du (mDu (aM S2 j k)))]) hx hb hts nX8 tyX8 tyX8_ok nmX8 hown hK hM hS h_8 rfl 1 (by decide) w2 (fun _ h9 => h9) rfl (by decide +kernel) rfl rfl (Nat.le_of_ble_eq_true rfl) dX11_setOdds_64 rfl (fun f_9 H locs e_10 hM hS => ?_)
      have h_11 : f_9 (ad 20 0 0) = some (.inr (16, [.int 0, .int (nI (aD S2)), .ref (ad 21 0 0), .ref (ad 23 0 0)])) := mq_n e_10 h_6 (mq_neO h_6 h_8 (by decide))
      have h_12 : f_9 (ad 30 j k) = some (.inr (4, [.int ((yA Y j k).1), .ref (lsD G (yA Y j k).2 (ad 31 j k)), .int (nI ((mAn (aM S2 j k)).length))])) := mq_n e_10 h_7 (mq_neO h_7 h_8 (by decide))
      have h_13 : f_9 (ad 29 j k) = some (.inr (13, [.int (nI w), .int (nI w), .ref (ad 30 j k), .int (zb (mOp (aM S2 j k))), .int (nI (mRo (aM S2 j k))), .int (du (mDu (aM S2 j k)))])) := mq_s e_10
      refine lv_aload hx hb dX11_setOdds_67 (lv_at hl 1 rfl) ?_
      refine mq_get (ci := 13) (v := .ref (ad 30 j k)) (C := RX8) (T := TX8) (N := 6) hx hb hts nX8 hown hK hM h_13 rfl 2 (by decide) w3 (fun _ h9 => h9) rfl dX11_setOdds_69 ?_
      refine mq_callv (va_runV (As := []) (rest := []) ⟨hx, hb, hml, hown, hts⟩ (c_Jx4a65c_clear_da8c8 l G A f_9 (ad 30 j k) (yA Y j k).1 (lsD G (yA Y j k).2 (ad 31 j k)) (yA Y j k).2 (ad 31 j k) (mAn (aM S2 j k)).length (fun i => sB G ((mAn (aM S2 j k)).getD i false))) (cwV 0 hts gX11_setOdds_Jx4a65c_clear_da8c8 rfl rfl rfl (by decide +kernel) ⟨Nat.le_of_ble_eq_true rfl, Nat.le_of_ble_eq_true rfl⟩) (mq_preV hK hZ hS hA hM (q := (RJx4a65c, TJx4a65c, 3)) h_12 rfl (⟨h_12, fun q => lsD_1 q, fun q => mq_n e_10 (mq_n e_5 (hR1.1 _ _ _ _ (t31 q hj (by omega))) (RR.ne hR1 (t31 q hj (by omega)) (t29 hj (by omega)) rfl (by simp))) (RR.ne hR1 (t31 q hj (by omega)) (t29 hj (by omega)) rfl (by simp)), hac1.1, hac1.2⟩) _) rfl rfl hl.1 rfl (lv_room (Nat.le_of_ble_eq_true rfl)) dX11_setOdds_72 ⟨Nat.le_of_ble_eq_true rfl, Nat.le_of_ble_eq_true rfl⟩) hS (fun g72 H locs p72 hM hS => ?_)
      refine W.widen (k := 0) (n := 0) (Nat.le_of_ble_eq_true rfl) (Nat.le_of_ble_eq_true rfl) ?_
      have hR2 := WR_set (o := w) hR1 hj (by omega) e_5 e_10 p72
      refine lv_iload hx hb dX11_setOdds_75 (lv_at hl 0 rfl) ?_
      exact mq_iret (v := nI (mOd (aM S2 j k))) hx hb hr hlocks hM hS (⟨0, nsSet S2 j k w, yAn Y j k ((yA Y j k).1 + 1, (yA Y j k).2), ad, (spLS_y hj hk hl4 hn).trans ((if_pos (vI_nI hw (by decide))).trans (by rw [nI_clamp (by omega)])), hR2, mCp_an hO.2 ⟨Nat.zero_le _, hac1.2⟩, adK_id⟩) dX11_setOdds_77
    · replace c_23 : zb (vI o 1001) = 0 := c_23
      rw [zb_0] at c_23
      refine lv_iconst (v := 1) hx hb dX11_setOdds_26 (by decide) ?_
      refine lv_goto (tgt := 31) hx hb dX11_setOdds_27 (by decide) ?_
      refine lv_iconst (v := 2) hx hb dX11_setOdds_31 (by decide) ?_
      refine mq_calli (va_runV (As := [.int 1, .int 2]) (rest := []) ⟨hx, hb, hml, hown, hts⟩ (c_X11_fails l G A f_1 (ad 20 0 0) true 2 0 (nI (aD S2)) (ad 21 0 0) (ad 23 0 0)) (cwV 2 hts gX11_setOdds_X11_fails rfl rfl rfl (by decide +kernel) ⟨Nat.le_of_ble_eq_true rfl, Nat.le_of_ble_eq_true rfl⟩) (mq_preV hK hZ hS hA hM (q := (RX11, TX11, 4)) h_3 rfl (h_3) _) rfl rfl hl.1 rfl (lv_room (Nat.le_of_ble_eq_true rfl)) dX11_setOdds_32 ⟨Nat.le_of_ble_eq_true rfl, Nat.le_of_ble_eq_true rfl⟩) hS (fun r32 g32 H locs p32 hM hS => ?_)
      refine W.widen (k := 0) (n := 0) (Nat.le_of_ble_eq_true rfl) (Nat.le_of_ble_eq_true rfl) ?_
      obtain ⟨hg, hr9⟩ := p32
      rw [hr9, show zb (decide (fT true 0 2 ≠ 0)) = 1 from by decide]
      refine lv_if_eq (tgt := 40) hx hb dX11_setOdds_35 (by decide) (fun c_35 => absurd c_35 (by decide)) (fun c_35 => ?_)
      refine lv_iconst (v := 0) hx hb dX11_setOdds_38 (by decide) ?_
      exact mq_iret (v := 0) hx hb hr hlocks hM hS (⟨2, S2, Y, ad, (spLS_y hj hk hl4 hn).trans (if_neg (by rw [c_23]; decide)), (by have q9 := WR_yt hR1 hg; exact q9), hO.2, adK_id⟩) dX11_setOdds_39
