/-! THE CLASS: learners; its own beginning -/
theorem RR.ext {f g : mq_F} {ad ad' : AD} {c c' : CC} (N : Nat → Nat → Nat → Prop) (h : RR f ad c) (hk : ∀ y e, f y = some e → g y = some e) (hold : ∀ a j k, ¬ N a j k → ad' a j k = ad a j k ∧ c' a j k = c a j k) (hnew : ∀ a j k e, N a j k → c' a j k = some e → g (ad' a j k) = some e ∧ f (ad' a j k) = none)
    (hinj : ∀ a j k a' j' k' e e', N a j k → N a' j' k' → c' a j k = some e → c' a' j' k' = some e' → ad' a j k = ad' a' j' k' → a = a' ∧ j = j' ∧ k = k') (hd : ∀ a j k, N a j k ∨ ¬ N a j k) : RR g ad' c' := by
  refine ⟨fun a j k e he => ?_, fun a j k a' j' k' e e' he he' hw => ?_⟩
  · rcases hd a j k with q | q
    · exact (hnew a j k e q he).1
    · obtain ⟨e1, e2⟩ := hold a j k q
      rw [e1]; rw [e2] at he
      exact hk _ _ (h.1 _ _ _ _ he)
  · rcases hd a j k with q | q
    · rcases hd a' j' k' with q' | q'
      · exact Or.inr (hinj _ _ _ _ _ _ _ _ q q' he he' hw)
      · obtain ⟨e1, e2⟩ := hold a' j' k' q'
        rw [e2] at he'; rw [e1] at hw
        have := h.1 _ _ _ _ he'
        rw [← hw, (hnew a j k e q he).2] at this; cases this
    · obtain ⟨e1, e2⟩ := hold a j k q
      rw [e2] at he; rw [e1] at hw
      rcases hd a' j' k' with q' | q'
      · have := h.1 _ _ _ _ he
        rw [hw, (hnew a' j' k' e' q' he').2] at this; cases this
      · obtain ⟨e3, e4⟩ := hold a' j' k' q'
        rw [e4] at he'; rw [e3] at hw
        exact h.2 _ _ _ _ _ _ _ _ he he' hw
def ma0 : maT := (200, 200, [], false, 0, 0)
def nsLearner (S : AT) : AT := ((aN S, aL S + 1, aD S), aS S, (fun j k => if j = aL S then ma0 else aM S j k), fU (aE S) (aL S) (none, none, []))
def nxLearner (X : CX) (l : Nat) : CX := ((fun j k => if j = l then (fun _ => 0) else xW X j k), fU (xLn X) l (fun k => if k < 3 then -1 else 0), fU (xOl X) l 0, xB X, xSo X, xR X, xK X)
def nAD (ad : AD) (l q mA ln : Nat) (ma wo : Nat → Nat) : AD := fun a j k => match a with
  | 5 => if j = l ∧ k = 0 then q else ad 5 j k
  | 6 => if j = l ∧ k = 0 then mA else ad 6 j k
  | 7 => if j = l then ma k else ad 7 j k
  | 8 => if j = l then wo k else ad 8 j k
  | 9 => if j = l ∧ k = 0 then ln else ad 9 j k
  | a => ad a j k
def nCC (G : mq_G) (ad : AD) (S : AT) (X : CX) (S2 : AT) (Y : MX) (O : OX) (q mA ln : Nat) (ma wo : Nat → Nat) : CC := fun a j k => match a with
  | 5 => if j = aL S ∧ k = 0 then some (cLe mA none none ln 0) else cT G ad S X S2 Y O 5 j k
  | 6 => if j = aL S ∧ k = 0 then some (cRf (G.2 5) 10 (rf_of 10 ma)) else cT G ad S X S2 Y O 6 j k
  | 7 => if j = aL S then (if k < 10 then some (cMa0 (wo k)) else none) else cT G ad S X S2 Y O 7 j k
  | 8 => if j = aL S then (if k < 10 then some (cWo G (fun _ => 0)) else none) else cT G ad S X S2 Y O 8 j k
  | 9 => if j = aL S ∧ k = 0 then some (cIn G 3 (fun k => if k < 3 then -1 else 0)) else cT G ad S X S2 Y O 9 j k
  | a => cT G ad S X S2 Y O a j k

set_option maxHeartbeats 2000000 in
theorem cT_al {G : mq_G} {ad : AD} {S : AT} {X : CX} {S2 : AT} {Y : MX} {O : OX} (q mA ln : Nat) (ma wo : Nat → Nat) : cU (cU (nCC G ad S X S2 Y O q mA ln ma wo) 2 0 0 (cRf (G.2 4) 4 (rf_of (aL S + 1) (fun k => if k = aL S then q else ad 5 k 0)))) 0 0 0 (.inr (12, [.ref (ad 1 0 0), .ref (ad 2 0 0), .ref (ad 3 0 0), .int (nI (aN S)), .int (nI (aL S + 1)), .int (nI (aD S))])) = cT G (nAD ad (aL S) q mA ln ma wo) (nsLearner S) (nxLearner X (aL S)) S2 Y O := by
  funext a j k
  exact (match a with
    | 0 => by
        by_cases h : j = 0 ∧ k = 0
        · obtain ⟨rfl, rfl⟩ := h; simp [nCC, nAD, nsLearner, nxLearner, aN, aL, aD, aS, aM, aE, sTop, sSk, sMa, sLe, xW, xLn, xOl, xB, xSo, xR, xK, sW, sRi, sXp, lEx, lWs, lMd, cU, cT, adU, fU, fU2]
        · simp [nCC, nAD, nsLearner, nxLearner, cU, cT, adU, h]
    | 1 => by first | rfl | (simp [aN, aL, aD, aS, aM, aE, sTop, sSk, sMa, sLe, xW, xLn, xOl, xB, xSo, xR, xK, sW, sRi, sXp, lEx, lWs, lMd, cU, cT, adU, fU, fU2]; done)
    | 2 => by
        by_cases h : j = 0 ∧ k = 0
        · obtain ⟨rfl, rfl⟩ := h; simp [nCC, nAD, nsLearner, nxLearner, aN, aL, aD, aS, aM, aE, sTop, sSk, sMa, sLe, xW, xLn, xOl, xB, xSo, xR, xK, sW, sRi, sXp, lEx, lWs, lMd, cU, cT, adU, fU, fU2]
        · simp [nCC, nAD, nsLearner, nxLearner, cU, cT, adU, h]
    | 3 => by first | rfl | (simp [aN, aL, aD, aS, aM, aE, sTop, sSk, sMa, sLe, xW, xLn, xOl, xB, xSo, xR, xK, sW, sRi, sXp, lEx, lWs, lMd, cU, cT, adU, fU, fU2]; done)
    | 4 => by first | rfl | (simp [aN, aL, aD, aS, aM, aE, sTop, sSk, sMa, sLe, xW, xLn, xOl, xB, xSo, xR, xK, sW, sRi, sXp, lEx, lWs, lMd, cU, cT, adU, fU, fU2]; done)
    | 5 => by
        by_cases h : j = S.1.2.1
        · subst h; simp [aN, aL, aD, aS, aM, aE, sTop, sSk, sMa, sLe, xW, xLn, xOl, xB, xSo, xR, xK, sW, sRi, sXp, lEx, lWs, lMd, mOd, mTo, mAn, mOp, mRo, mDu, ma0, nCC, nAD, nsLearner, nxLearner, cU, cT, fU, fU2, oMap]
        · by_cases h3 : j < S.1.2.1
          · have h4 : j < S.1.2.1 + 1 := by omega
            simp [aN, aL, aD, aS, aM, aE, sTop, sSk, sMa, sLe, xW, xLn, xOl, xB, xSo, xR, xK, sW, sRi, sXp, lEx, lWs, lMd, mOd, mTo, mAn, mOp, mRo, mDu, ma0, nCC, nAD, nsLearner, nxLearner, cU, cT, fU, fU2, oMap, h, h3, h4]
          · have h4 : ¬ j < S.1.2.1 + 1 := by omega
            simp [aN, aL, aD, aS, aM, aE, sTop, sSk, sMa, sLe, xW, xLn, xOl, xB, xSo, xR, xK, sW, sRi, sXp, lEx, lWs, lMd, mOd, mTo, mAn, mOp, mRo, mDu, ma0, nCC, nAD, nsLearner, nxLearner, cU, cT, fU, fU2, oMap, h, h3, h4]
    | 6 => by
        by_cases h : j = S.1.2.1
        · subst h; simp [aN, aL, aD, aS, aM, aE, sTop, sSk, sMa, sLe, xW, xLn, xOl, xB, xSo, xR, xK, sW, sRi, sXp, lEx, lWs, lMd, mOd, mTo, mAn, mOp, mRo, mDu, ma0, nCC, nAD, nsLearner, nxLearner, cU, cT, fU, fU2, oMap]
        · by_cases h3 : j < S.1.2.1
          · have h4 : j < S.1.2.1 + 1 := by omega
            simp [aN, aL, aD, aS, aM, aE, sTop, sSk, sMa, sLe, xW, xLn, xOl, xB, xSo, xR, xK, sW, sRi, sXp, lEx, lWs, lMd, mOd, mTo, mAn, mOp, mRo, mDu, ma0, nCC, nAD, nsLearner, nxLearner, cU, cT, fU, fU2, oMap, h, h3, h4]
          · have h4 : ¬ j < S.1.2.1 + 1 := by omega
            simp [aN, aL, aD, aS, aM, aE, sTop, sSk, sMa, sLe, xW, xLn, xOl, xB, xSo, xR, xK, sW, sRi, sXp, lEx, lWs, lMd, mOd, mTo, mAn, mOp, mRo, mDu, ma0, nCC, nAD, nsLearner, nxLearner, cU, cT, fU, fU2, oMap, h, h3, h4]
    | 7 => by
        by_cases h : j = S.1.2.1
        · subst h; simp [aN, aL, aD, aS, aM, aE, sTop, sSk, sMa, sLe, xW, xLn, xOl, xB, xSo, xR, xK, sW, sRi, sXp, lEx, lWs, lMd, mOd, mTo, mAn, mOp, mRo, mDu, ma0, nCC, nAD, nsLearner, nxLearner, cU, cT, fU, fU2, oMap]
        · by_cases h3 : j < S.1.2.1
          · have h4 : j < S.1.2.1 + 1 := by omega
            simp [aN, aL, aD, aS, aM, aE, sTop, sSk, sMa, sLe, xW, xLn, xOl, xB, xSo, xR, xK, sW, sRi, sXp, lEx, lWs, lMd, mOd, mTo, mAn, mOp, mRo, mDu, ma0, nCC, nAD, nsLearner, nxLearner, cU, cT, fU, fU2, oMap, h, h3, h4]
          · have h4 : ¬ j < S.1.2.1 + 1 := by omega
            simp [aN, aL, aD, aS, aM, aE, sTop, sSk, sMa, sLe, xW, xLn, xOl, xB, xSo, xR, xK, sW, sRi, sXp, lEx, lWs, lMd, mOd, mTo, mAn, mOp, mRo, mDu, ma0, nCC, nAD, nsLearner, nxLearner, cU, cT, fU, fU2, oMap, h, h3, h4]
    | 8 => by
        by_cases h : j = S.1.2.1
        · subst h; simp [aN, aL, aD, aS, aM, aE, sTop, sSk, sMa, sLe, xW, xLn, xOl, xB, xSo, xR, xK, sW, sRi, sXp, lEx, lWs, lMd, mOd, mTo, mAn, mOp, mRo, mDu, ma0, nCC, nAD, nsLearner, nxLearner, cU, cT, fU, fU2, oMap]
        · by_cases h3 : j < S.1.2.1
          · have h4 : j < S.1.2.1 + 1 := by omega
            simp [aN, aL, aD, aS, aM, aE, sTop, sSk, sMa, sLe, xW, xLn, xOl, xB, xSo, xR, xK, sW, sRi, sXp, lEx, lWs, lMd, mOd, mTo, mAn, mOp, mRo, mDu, ma0, nCC, nAD, nsLearner, nxLearner, cU, cT, fU, fU2, oMap, h, h3, h4]
          · have h4 : ¬ j < S.1.2.1 + 1 := by omega
            simp [aN, aL, aD, aS, aM, aE, sTop, sSk, sMa, sLe, xW, xLn, xOl, xB, xSo, xR, xK, sW, sRi, sXp, lEx, lWs, lMd, mOd, mTo, mAn, mOp, mRo, mDu, ma0, nCC, nAD, nsLearner, nxLearner, cU, cT, fU, fU2, oMap, h, h3, h4]
    | 9 => by
        by_cases h : j = S.1.2.1
        · subst h; simp [aN, aL, aD, aS, aM, aE, sTop, sSk, sMa, sLe, xW, xLn, xOl, xB, xSo, xR, xK, sW, sRi, sXp, lEx, lWs, lMd, mOd, mTo, mAn, mOp, mRo, mDu, ma0, nCC, nAD, nsLearner, nxLearner, cU, cT, fU, fU2, oMap]
        · by_cases h3 : j < S.1.2.1
          · have h4 : j < S.1.2.1 + 1 := by omega
            simp [aN, aL, aD, aS, aM, aE, sTop, sSk, sMa, sLe, xW, xLn, xOl, xB, xSo, xR, xK, sW, sRi, sXp, lEx, lWs, lMd, mOd, mTo, mAn, mOp, mRo, mDu, ma0, nCC, nAD, nsLearner, nxLearner, cU, cT, fU, fU2, oMap, h, h3, h4]
          · have h4 : ¬ j < S.1.2.1 + 1 := by omega
            simp [aN, aL, aD, aS, aM, aE, sTop, sSk, sMa, sLe, xW, xLn, xOl, xB, xSo, xR, xK, sW, sRi, sXp, lEx, lWs, lMd, mOd, mTo, mAn, mOp, mRo, mDu, ma0, nCC, nAD, nsLearner, nxLearner, cU, cT, fU, fU2, oMap, h, h3, h4]
    | 10 => by
        by_cases h : j = S.1.2.1
        · subst h; simp [aN, aL, aD, aS, aM, aE, sTop, sSk, sMa, sLe, xW, xLn, xOl, xB, xSo, xR, xK, sW, sRi, sXp, lEx, lWs, lMd, mOd, mTo, mAn, mOp, mRo, mDu, nCC, nAD, nsLearner, nxLearner, cU, cT, fU, fU2, oMap]
        · by_cases h3 : j < S.1.2.1
          · have h4 : j < S.1.2.1 + 1 := by omega
            simp [aN, aL, aD, aS, aM, aE, sTop, sSk, sMa, sLe, xW, xLn, xOl, xB, xSo, xR, xK, sW, sRi, sXp, lEx, lWs, lMd, mOd, mTo, mAn, mOp, mRo, mDu, nCC, nAD, nsLearner, nxLearner, cU, cT, fU, fU2, oMap, h, h3, h4]
          · have h4 : ¬ j < S.1.2.1 + 1 := by omega
            simp [aN, aL, aD, aS, aM, aE, sTop, sSk, sMa, sLe, xW, xLn, xOl, xB, xSo, xR, xK, sW, sRi, sXp, lEx, lWs, lMd, mOd, mTo, mAn, mOp, mRo, mDu, nCC, nAD, nsLearner, nxLearner, cU, cT, fU, fU2, oMap, h, h3, h4]
    | 11 => by
        by_cases h : j = S.1.2.1
        · subst h; simp [aN, aL, aD, aS, aM, aE, sTop, sSk, sMa, sLe, xW, xLn, xOl, xB, xSo, xR, xK, sW, sRi, sXp, lEx, lWs, lMd, mOd, mTo, mAn, mOp, mRo, mDu, nCC, nAD, nsLearner, nxLearner, cU, cT, fU, fU2, oMap]
        · by_cases h3 : j < S.1.2.1
          · have h4 : j < S.1.2.1 + 1 := by omega
            simp [aN, aL, aD, aS, aM, aE, sTop, sSk, sMa, sLe, xW, xLn, xOl, xB, xSo, xR, xK, sW, sRi, sXp, lEx, lWs, lMd, mOd, mTo, mAn, mOp, mRo, mDu, nCC, nAD, nsLearner, nxLearner, cU, cT, fU, fU2, oMap, h, h3, h4]
          · have h4 : ¬ j < S.1.2.1 + 1 := by omega
            simp [aN, aL, aD, aS, aM, aE, sTop, sSk, sMa, sLe, xW, xLn, xOl, xB, xSo, xR, xK, sW, sRi, sXp, lEx, lWs, lMd, mOd, mTo, mAn, mOp, mRo, mDu, nCC, nAD, nsLearner, nxLearner, cU, cT, fU, fU2, oMap, h, h3, h4]
    | 12 => by
        by_cases h : j = S.1.2.1
        · subst h; simp [aN, aL, aD, aS, aM, aE, sTop, sSk, sMa, sLe, xW, xLn, xOl, xB, xSo, xR, xK, sW, sRi, sXp, lEx, lWs, lMd, mOd, mTo, mAn, mOp, mRo, mDu, nCC, nAD, nsLearner, nxLearner, cU, cT, fU, fU2, oMap]
        · by_cases h3 : j < S.1.2.1
          · have h4 : j < S.1.2.1 + 1 := by omega
            simp [aN, aL, aD, aS, aM, aE, sTop, sSk, sMa, sLe, xW, xLn, xOl, xB, xSo, xR, xK, sW, sRi, sXp, lEx, lWs, lMd, mOd, mTo, mAn, mOp, mRo, mDu, nCC, nAD, nsLearner, nxLearner, cU, cT, fU, fU2, oMap, h, h3, h4]
          · have h4 : ¬ j < S.1.2.1 + 1 := by omega
            simp [aN, aL, aD, aS, aM, aE, sTop, sSk, sMa, sLe, xW, xLn, xOl, xB, xSo, xR, xK, sW, sRi, sXp, lEx, lWs, lMd, mOd, mTo, mAn, mOp, mRo, mDu, nCC, nAD, nsLearner, nxLearner, cU, cT, fU, fU2, oMap, h, h3, h4]
    | 13 => by
        by_cases h : j = S.1.2.1
        · subst h; simp [aN, aL, aD, aS, aM, aE, sTop, sSk, sMa, sLe, xW, xLn, xOl, xB, xSo, xR, xK, sW, sRi, sXp, lEx, lWs, lMd, mOd, mTo, mAn, mOp, mRo, mDu, nCC, nAD, nsLearner, nxLearner, cU, cT, fU, fU2, oMap]
        · by_cases h3 : j < S.1.2.1
          · have h4 : j < S.1.2.1 + 1 := by omega
            simp [aN, aL, aD, aS, aM, aE, sTop, sSk, sMa, sLe, xW, xLn, xOl, xB, xSo, xR, xK, sW, sRi, sXp, lEx, lWs, lMd, mOd, mTo, mAn, mOp, mRo, mDu, nCC, nAD, nsLearner, nxLearner, cU, cT, fU, fU2, oMap, h, h3, h4]
          · have h4 : ¬ j < S.1.2.1 + 1 := by omega
            simp [aN, aL, aD, aS, aM, aE, sTop, sSk, sMa, sLe, xW, xLn, xOl, xB, xSo, xR, xK, sW, sRi, sXp, lEx, lWs, lMd, mOd, mTo, mAn, mOp, mRo, mDu, nCC, nAD, nsLearner, nxLearner, cU, cT, fU, fU2, oMap, h, h3, h4]
    | 14 => by
        by_cases h : j = S.1.2.1
        · subst h; simp [aN, aL, aD, aS, aM, aE, sTop, sSk, sMa, sLe, xW, xLn, xOl, xB, xSo, xR, xK, sW, sRi, sXp, lEx, lWs, lMd, mOd, mTo, mAn, mOp, mRo, mDu, nCC, nAD, nsLearner, nxLearner, cU, cT, fU, fU2, oMap]
        · by_cases h3 : j < S.1.2.1
          · have h4 : j < S.1.2.1 + 1 := by omega
            simp [aN, aL, aD, aS, aM, aE, sTop, sSk, sMa, sLe, xW, xLn, xOl, xB, xSo, xR, xK, sW, sRi, sXp, lEx, lWs, lMd, mOd, mTo, mAn, mOp, mRo, mDu, nCC, nAD, nsLearner, nxLearner, cU, cT, fU, fU2, oMap, h, h3, h4]
          · have h4 : ¬ j < S.1.2.1 + 1 := by omega
            simp [aN, aL, aD, aS, aM, aE, sTop, sSk, sMa, sLe, xW, xLn, xOl, xB, xSo, xR, xK, sW, sRi, sXp, lEx, lWs, lMd, mOd, mTo, mAn, mOp, mRo, mDu, nCC, nAD, nsLearner, nxLearner, cU, cT, fU, fU2, oMap, h, h3, h4]
    | 15 => by first | rfl | (simp [aN, aL, aD, aS, aM, aE, sTop, sSk, sMa, sLe, xW, xLn, xOl, xB, xSo, xR, xK, sW, sRi, sXp, lEx, lWs, lMd, cU, cT, adU, fU, fU2]; done)
    | 16 => by first | rfl | (simp [aN, aL, aD, aS, aM, aE, sTop, sSk, sMa, sLe, xW, xLn, xOl, xB, xSo, xR, xK, sW, sRi, sXp, lEx, lWs, lMd, cU, cT, adU, fU, fU2]; done)
    | 17 => by first | rfl | (simp [aN, aL, aD, aS, aM, aE, sTop, sSk, sMa, sLe, xW, xLn, xOl, xB, xSo, xR, xK, sW, sRi, sXp, lEx, lWs, lMd, cU, cT, adU, fU, fU2]; done)
    | 18 => by first | rfl | (simp [aN, aL, aD, aS, aM, aE, sTop, sSk, sMa, sLe, xW, xLn, xOl, xB, xSo, xR, xK, sW, sRi, sXp, lEx, lWs, lMd, cU, cT, adU, fU, fU2]; done)
    | 19 => by first | rfl | (simp [aN, aL, aD, aS, aM, aE, sTop, sSk, sMa, sLe, xW, xLn, xOl, xB, xSo, xR, xK, sW, sRi, sXp, lEx, lWs, lMd, cU, cT, adU, fU, fU2]; done)
    | 20 => by first | rfl | (simp [aN, aL, aD, aS, aM, aE, sTop, sSk, sMa, sLe, xW, xLn, xOl, xB, xSo, xR, xK, sW, sRi, sXp, lEx, lWs, lMd, cU, cT, adU, fU, fU2]; done)
    | 21 => by first | rfl | (simp [aN, aL, aD, aS, aM, aE, sTop, sSk, sMa, sLe, xW, xLn, xOl, xB, xSo, xR, xK, sW, sRi, sXp, lEx, lWs, lMd, cU, cT, adU, fU, fU2]; done)
    | 22 => by first | rfl | (simp [aN, aL, aD, aS, aM, aE, sTop, sSk, sMa, sLe, xW, xLn, xOl, xB, xSo, xR, xK, sW, sRi, sXp, lEx, lWs, lMd, cU, cT, adU, fU, fU2]; done)
    | 23 => by first | rfl | (simp [aN, aL, aD, aS, aM, aE, sTop, sSk, sMa, sLe, xW, xLn, xOl, xB, xSo, xR, xK, sW, sRi, sXp, lEx, lWs, lMd, cU, cT, adU, fU, fU2]; done)
    | 24 => by first | rfl | (simp [aN, aL, aD, aS, aM, aE, sTop, sSk, sMa, sLe, xW, xLn, xOl, xB, xSo, xR, xK, sW, sRi, sXp, lEx, lWs, lMd, cU, cT, adU, fU, fU2]; done)
    | 25 => by first | rfl | (simp [aN, aL, aD, aS, aM, aE, sTop, sSk, sMa, sLe, xW, xLn, xOl, xB, xSo, xR, xK, sW, sRi, sXp, lEx, lWs, lMd, cU, cT, adU, fU, fU2]; done)
    | 26 => by first | rfl | (simp [aN, aL, aD, aS, aM, aE, sTop, sSk, sMa, sLe, xW, xLn, xOl, xB, xSo, xR, xK, sW, sRi, sXp, lEx, lWs, lMd, cU, cT, adU, fU, fU2]; done)
    | 27 => by first | rfl | (simp [aN, aL, aD, aS, aM, aE, sTop, sSk, sMa, sLe, xW, xLn, xOl, xB, xSo, xR, xK, sW, sRi, sXp, lEx, lWs, lMd, cU, cT, adU, fU, fU2]; done)
    | 28 => by first | rfl | (simp [aN, aL, aD, aS, aM, aE, sTop, sSk, sMa, sLe, xW, xLn, xOl, xB, xSo, xR, xK, sW, sRi, sXp, lEx, lWs, lMd, cU, cT, adU, fU, fU2]; done)
    | 29 => by first | rfl | (simp [aN, aL, aD, aS, aM, aE, sTop, sSk, sMa, sLe, xW, xLn, xOl, xB, xSo, xR, xK, sW, sRi, sXp, lEx, lWs, lMd, cU, cT, adU, fU, fU2]; done)
    | 30 => by first | rfl | (simp [aN, aL, aD, aS, aM, aE, sTop, sSk, sMa, sLe, xW, xLn, xOl, xB, xSo, xR, xK, sW, sRi, sXp, lEx, lWs, lMd, cU, cT, adU, fU, fU2]; done)
    | 31 => by first | rfl | (simp [aN, aL, aD, aS, aM, aE, sTop, sSk, sMa, sLe, xW, xLn, xOl, xB, xSo, xR, xK, sW, sRi, sXp, lEx, lWs, lMd, cU, cT, adU, fU, fU2]; done)
    | 32 => by first | rfl | (simp [aN, aL, aD, aS, aM, aE, sTop, sSk, sMa, sLe, xW, xLn, xOl, xB, xSo, xR, xK, sW, sRi, sXp, lEx, lWs, lMd, cU, cT, adU, fU, fU2]; done)
    | 33 => by first | rfl | (simp [aN, aL, aD, aS, aM, aE, sTop, sSk, sMa, sLe, xW, xLn, xOl, xB, xSo, xR, xK, sW, sRi, sXp, lEx, lWs, lMd, cU, cT, adU, fU, fU2]; done)
    | 34 => by first | rfl | (simp [aN, aL, aD, aS, aM, aE, sTop, sSk, sMa, sLe, xW, xLn, xOl, xB, xSo, xR, xK, sW, sRi, sXp, lEx, lWs, lMd, cU, cT, adU, fU, fU2]; done)
    | 35 => by first | rfl | (simp [aN, aL, aD, aS, aM, aE, sTop, sSk, sMa, sLe, xW, xLn, xOl, xB, xSo, xR, xK, sW, sRi, sXp, lEx, lWs, lMd, cU, cT, adU, fU, fU2]; done)
    | 36 => by first | rfl | (simp [aN, aL, aD, aS, aM, aE, sTop, sSk, sMa, sLe, xW, xLn, xOl, xB, xSo, xR, xK, sW, sRi, sXp, lEx, lWs, lMd, cU, cT, adU, fU, fU2]; done)
    | 37 => by first | rfl | (simp [aN, aL, aD, aS, aM, aE, sTop, sSk, sMa, sLe, xW, xLn, xOl, xB, xSo, xR, xK, sW, sRi, sXp, lEx, lWs, lMd, cU, cT, adU, fU, fU2]; done)
    | 38 => by first | rfl | (simp [aN, aL, aD, aS, aM, aE, sTop, sSk, sMa, sLe, xW, xLn, xOl, xB, xSo, xR, xK, sW, sRi, sXp, lEx, lWs, lMd, cU, cT, adU, fU, fU2]; done)
    | 39 => by first | rfl | (simp [aN, aL, aD, aS, aM, aE, sTop, sSk, sMa, sLe, xW, xLn, xOl, xB, xSo, xR, xK, sW, sRi, sXp, lEx, lWs, lMd, cU, cT, adU, fU, fU2]; done)
    | n + 40 => by first | rfl | simp [cU, cT])

theorem WR_al {G : mq_G} {f g : mq_F} {ad : AD} {S : AT} {X : CX} {S2 : AT} {Y : MX} {O : OX} {f1 f2 f3 : mq_F} {q mA ln : Nat} {ma wo : Nat → Nat} {z : va_E} (hR : WR G f ad S X S2 Y O) (hq : f q = none) (h1 : f1 = mq_up f q z) (hm : lr_made G f1 f2 q mA ln ma wo) (h3 : f3 = mq_up f2 (ad 2 0 0) (cRf (G.2 4) 4 (rf_of (aL S + 1) (fun k => if k = aL S then q else ad 5 k 0)))) (hg : g = mq_up f3 (ad 0 0 0) (.inr (12, [.ref (ad 1 0 0), .ref (ad 2 0 0), .ref (ad 3 0 0), .int (nI (aN S)), .int (nI (aL S + 1)), .int (nI (aD S))]))) : WR G g (nAD ad (aL S) q mA ln ma wo) (nsLearner S) (nxLearner X (aL S)) S2 Y O := by
  have hf1 : ∀ y, f1 y = none → f y = none := fun y hy => mq_fr h1 hy
  have hk : ∀ y e, f y = some e → f2 y = some e := fun y e hy => hm.1.2.2 y e (mq_neN hy hq) (mq_n h1 hy (mq_neN hy hq))
  have r1 : RR f2 (nAD ad (aL S) q mA ln ma wo) (nCC G ad S X S2 Y O q mA ln ma wo) := by
    refine RR.ext (fun a j k => j = aL S ∧ ((a = 5 ∧ k = 0) ∨ (a = 6 ∧ k = 0) ∨ (a = 7 ∧ True) ∨ (a = 8 ∧ True) ∨ (a = 9 ∧ k = 0))) hR hk (fun a j k hN => ?_) (fun a j k e hN he => ?_) (fun a j k a' j' k9 e e' hN hN' he he' hw => ?_) (fun a j k => Decidable.em _)
    · match a, hN with
      | 5, hN => exact ⟨if_neg (fun w => hN ⟨w.1, Or.inl ⟨rfl, w.2⟩⟩), if_neg (fun w => hN ⟨w.1, Or.inl ⟨rfl, w.2⟩⟩)⟩
      | 6, hN => exact ⟨if_neg (fun w => hN ⟨w.1, Or.inr (Or.inl ⟨rfl, w.2⟩)⟩), if_neg (fun w => hN ⟨w.1, Or.inr (Or.inl ⟨rfl, w.2⟩)⟩)⟩
      | 9, hN => exact ⟨if_neg (fun w => hN ⟨w.1, Or.inr (Or.inr (Or.inr (Or.inr ⟨rfl, w.2⟩)))⟩), if_neg (fun w => hN ⟨w.1, Or.inr (Or.inr (Or.inr (Or.inr ⟨rfl, w.2⟩)))⟩)⟩
      | 7, hN => exact ⟨if_neg (fun w => hN ⟨w, Or.inr (Or.inr (Or.inl ⟨rfl, trivial⟩))⟩), if_neg (fun w => hN ⟨w, Or.inr (Or.inr (Or.inl ⟨rfl, trivial⟩))⟩)⟩
      | 8, hN => exact ⟨if_neg (fun w => hN ⟨w, Or.inr (Or.inr (Or.inr (Or.inl ⟨rfl, trivial⟩)))⟩), if_neg (fun w => hN ⟨w, Or.inr (Or.inr (Or.inr (Or.inl ⟨rfl, trivial⟩)))⟩)⟩
      | 0, hN => exact ⟨rfl, rfl⟩
      | 1, hN => exact ⟨rfl, rfl⟩
      | 2, hN => exact ⟨rfl, rfl⟩
      | 3, hN => exact ⟨rfl, rfl⟩
      | 4, hN => exact ⟨rfl, rfl⟩
      | 10, hN => exact ⟨rfl, rfl⟩
      | 11, hN => exact ⟨rfl, rfl⟩
      | 12, hN => exact ⟨rfl, rfl⟩
      | 13, hN => exact ⟨rfl, rfl⟩
      | 14, hN => exact ⟨rfl, rfl⟩
      | 15, hN => exact ⟨rfl, rfl⟩
      | 16, hN => exact ⟨rfl, rfl⟩
      | 17, hN => exact ⟨rfl, rfl⟩
      | 18, hN => exact ⟨rfl, rfl⟩
      | 19, hN => exact ⟨rfl, rfl⟩
      | 20, hN => exact ⟨rfl, rfl⟩
      | 21, hN => exact ⟨rfl, rfl⟩
      | 22, hN => exact ⟨rfl, rfl⟩
      | 23, hN => exact ⟨rfl, rfl⟩
      | 24, hN => exact ⟨rfl, rfl⟩
      | 25, hN => exact ⟨rfl, rfl⟩
      | 26, hN => exact ⟨rfl, rfl⟩
      | 27, hN => exact ⟨rfl, rfl⟩
      | 28, hN => exact ⟨rfl, rfl⟩
      | 29, hN => exact ⟨rfl, rfl⟩
      | 30, hN => exact ⟨rfl, rfl⟩
      | 31, hN => exact ⟨rfl, rfl⟩
      | 32, hN => exact ⟨rfl, rfl⟩
      | 33, hN => exact ⟨rfl, rfl⟩
      | 34, hN => exact ⟨rfl, rfl⟩
      | 35, hN => exact ⟨rfl, rfl⟩
      | 36, hN => exact ⟨rfl, rfl⟩
      | 37, hN => exact ⟨rfl, rfl⟩
      | 38, hN => exact ⟨rfl, rfl⟩
      | 39, hN => exact ⟨rfl, rfl⟩
      | n + 40, hN => exact ⟨rfl, rfl⟩
    · rcases hN with ⟨rfl, (⟨rfl, rfl⟩ | ⟨rfl, rfl⟩ | ⟨rfl, -⟩ | ⟨rfl, -⟩ | ⟨rfl, rfl⟩)⟩
      · have e1 : nAD ad (aL S) q mA ln ma wo 5 (aL S) 0 = q := by simp [nAD]
        have e2 : nCC G ad S X S2 Y O q mA ln ma wo 5 (aL S) 0 = some (cLe mA none none ln 0) := by simp [nCC]
        rw [e2] at he; cases he; rw [e1]
        exact ⟨hm.2.2.2.1, hq⟩
      · have e1 : nAD ad (aL S) q mA ln ma wo 6 (aL S) 0 = mA := by simp [nAD]
        have e2 : nCC G ad S X S2 Y O q mA ln ma wo 6 (aL S) 0 = some (cRf (G.2 5) 10 (rf_of 10 ma)) := by simp [nCC]
        rw [e2] at he; cases he; rw [e1]
        exact ⟨hm.2.2.2.2.1, hf1 _ hm.2.1⟩
      · have hk1 : k < 10 := by
          by_cases q7 : k < 10
          · exact q7
          · rw [show nCC G ad S X S2 Y O q mA ln ma wo 7 (aL S) k = none by simp [nCC, q7]] at he; cases he
        have e1 : nAD ad (aL S) q mA ln ma wo 7 (aL S) k = ma k := by simp [nAD]
        have e2 : nCC G ad S X S2 Y O q mA ln ma wo 7 (aL S) k = some (cMa0 (wo k)) := by simp [nCC, hk1]
        rw [e2] at he; cases he; rw [e1]
        exact ⟨(hm.1.1 k hk1).1, hf1 _ (hm.1.1 k hk1).2.2.1⟩
      · have hk1 : k < 10 := by
          by_cases q7 : k < 10
          · exact q7
          · rw [show nCC G ad S X S2 Y O q mA ln ma wo 8 (aL S) k = none by simp [nCC, q7]] at he; cases he
        have e1 : nAD ad (aL S) q mA ln ma wo 8 (aL S) k = wo k := by simp [nAD]
        have e2 : nCC G ad S X S2 Y O q mA ln ma wo 8 (aL S) k = some (cWo G (fun _ => 0)) := by simp [nCC, hk1]
        rw [e2] at he; cases he; rw [e1]
        exact ⟨(hm.1.1 k hk1).2.1, hf1 _ (hm.1.1 k hk1).2.2.2⟩
      · have e1 : nAD ad (aL S) q mA ln ma wo 9 (aL S) 0 = ln := by simp [nAD]
        have e2 : nCC G ad S X S2 Y O q mA ln ma wo 9 (aL S) 0 = some (cIn G 3 (fun k => if k < 3 then -1 else 0)) := by simp [nCC]
        rw [e2] at he; cases he; rw [e1]
        exact ⟨hm.2.2.2.2.2, hf1 _ hm.2.2.1⟩
    · rcases hN with ⟨rfl, (⟨rfl, rfl⟩ | ⟨rfl, rfl⟩ | ⟨rfl, -⟩ | ⟨rfl, -⟩ | ⟨rfl, rfl⟩)⟩ <;> rcases hN' with ⟨rfl, (⟨rfl, rfl⟩ | ⟨rfl, rfl⟩ | ⟨rfl, -⟩ | ⟨rfl, -⟩ | ⟨rfl, rfl⟩)⟩
      · exact ⟨rfl, rfl, rfl⟩
      · have e1 : nAD ad (aL S) q mA ln ma wo 5 (aL S) 0 = q := by simp [nAD]
        have e2 : nAD ad (aL S) q mA ln ma wo 6 (aL S) 0 = mA := by simp [nAD]
        rw [e1, e2] at hw
        exact absurd hw (mq_neA hm.2.2.2.1 hm.2.2.2.2.1)
      · have k2 : k9 < 10 := by
          by_cases q7 : k9 < 10
          · exact q7
          · rw [show nCC G ad S X S2 Y O q mA ln ma wo 7 (aL S) k9 = none by simp [nCC, q7]] at he'; cases he'
        have e1 : nAD ad (aL S) q mA ln ma wo 5 (aL S) 0 = q := by simp [nAD]
        have e2 : nAD ad (aL S) q mA ln ma wo 7 (aL S) k9 = ma k9 := by simp [nAD]
        rw [e1, e2] at hw
        exact absurd hw (mq_neO hm.2.2.2.1 (hm.1.1 k9 k2).1 (by decide))
      · have k2 : k9 < 10 := by
          by_cases q7 : k9 < 10
          · exact q7
          · rw [show nCC G ad S X S2 Y O q mA ln ma wo 8 (aL S) k9 = none by simp [nCC, q7]] at he'; cases he'
        have e1 : nAD ad (aL S) q mA ln ma wo 5 (aL S) 0 = q := by simp [nAD]
        have e2 : nAD ad (aL S) q mA ln ma wo 8 (aL S) k9 = wo k9 := by simp [nAD]
        rw [e1, e2] at hw
        exact absurd hw (mq_neA hm.2.2.2.1 (hm.1.1 k9 k2).2.1)
      · have e1 : nAD ad (aL S) q mA ln ma wo 5 (aL S) 0 = q := by simp [nAD]
        have e2 : nAD ad (aL S) q mA ln ma wo 9 (aL S) 0 = ln := by simp [nAD]
        rw [e1, e2] at hw
        exact absurd hw (mq_neA hm.2.2.2.1 hm.2.2.2.2.2)
      · have e1 : nAD ad (aL S) q mA ln ma wo 6 (aL S) 0 = mA := by simp [nAD]
        have e2 : nAD ad (aL S) q mA ln ma wo 5 (aL S) 0 = q := by simp [nAD]
        rw [e1, e2] at hw
        exact absurd hw (mq_neB hm.2.2.2.2.1 hm.2.2.2.1)
      · exact ⟨rfl, rfl, rfl⟩
      · have k2 : k9 < 10 := by
          by_cases q7 : k9 < 10
          · exact q7
          · rw [show nCC G ad S X S2 Y O q mA ln ma wo 7 (aL S) k9 = none by simp [nCC, q7]] at he'; cases he'
        have e1 : nAD ad (aL S) q mA ln ma wo 6 (aL S) 0 = mA := by simp [nAD]
        have e2 : nAD ad (aL S) q mA ln ma wo 7 (aL S) k9 = ma k9 := by simp [nAD]
        rw [e1, e2] at hw
        exact absurd hw (mq_neB hm.2.2.2.2.1 (hm.1.1 k9 k2).1)
      · have k2 : k9 < 10 := by
          by_cases q7 : k9 < 10
          · exact q7
          · rw [show nCC G ad S X S2 Y O q mA ln ma wo 8 (aL S) k9 = none by simp [nCC, q7]] at he'; cases he'
        have e1 : nAD ad (aL S) q mA ln ma wo 6 (aL S) 0 = mA := by simp [nAD]
        have e2 : nAD ad (aL S) q mA ln ma wo 8 (aL S) k9 = wo k9 := by simp [nAD]
        rw [e1, e2] at hw
        exact absurd hw (mq_neCql hm.2.2.2.2.1 (hm.1.1 k9 k2).2.1)
      · have e1 : nAD ad (aL S) q mA ln ma wo 6 (aL S) 0 = mA := by simp [nAD]
        have e2 : nAD ad (aL S) q mA ln ma wo 9 (aL S) 0 = ln := by simp [nAD]
        rw [e1, e2] at hw
        exact absurd hw (mq_neCqi hm.2.2.2.2.1 hm.2.2.2.2.2)
      · have k1 : k < 10 := by
          by_cases q7 : k < 10
          · exact q7
          · rw [show nCC G ad S X S2 Y O q mA ln ma wo 7 (aL S) k = none by simp [nCC, q7]] at he; cases he
        have e1 : nAD ad (aL S) q mA ln ma wo 7 (aL S) k = ma k := by simp [nAD]
        have e2 : nAD ad (aL S) q mA ln ma wo 5 (aL S) 0 = q := by simp [nAD]
        rw [e1, e2] at hw
        exact absurd hw (mq_neO (hm.1.1 k k1).1 hm.2.2.2.1 (by decide))
      · have k1 : k < 10 := by
          by_cases q7 : k < 10
          · exact q7
          · rw [show nCC G ad S X S2 Y O q mA ln ma wo 7 (aL S) k = none by simp [nCC, q7]] at he; cases he
        have e1 : nAD ad (aL S) q mA ln ma wo 7 (aL S) k = ma k := by simp [nAD]
        have e2 : nAD ad (aL S) q mA ln ma wo 6 (aL S) 0 = mA := by simp [nAD]
        rw [e1, e2] at hw
        exact absurd hw (mq_neA (hm.1.1 k k1).1 hm.2.2.2.2.1)
      · have k1 : k < 10 := by
          by_cases q7 : k < 10
          · exact q7
          · rw [show nCC G ad S X S2 Y O q mA ln ma wo 7 (aL S) k = none by simp [nCC, q7]] at he; cases he
        have k2 : k9 < 10 := by
          by_cases q7 : k9 < 10
          · exact q7
          · rw [show nCC G ad S X S2 Y O q mA ln ma wo 7 (aL S) k9 = none by simp [nCC, q7]] at he'; cases he'
        have e1 : nAD ad (aL S) q mA ln ma wo 7 (aL S) k = ma k := by simp [nAD]
        have e2 : nAD ad (aL S) q mA ln ma wo 7 (aL S) k9 = ma k9 := by simp [nAD]
        rw [e1, e2] at hw
        exact ⟨rfl, rfl, (hm.1.2.1 k k9 k1 k2).1 hw⟩
      · have k1 : k < 10 := by
          by_cases q7 : k < 10
          · exact q7
          · rw [show nCC G ad S X S2 Y O q mA ln ma wo 7 (aL S) k = none by simp [nCC, q7]] at he; cases he
        have k2 : k9 < 10 := by
          by_cases q7 : k9 < 10
          · exact q7
          · rw [show nCC G ad S X S2 Y O q mA ln ma wo 8 (aL S) k9 = none by simp [nCC, q7]] at he'; cases he'
        have e1 : nAD ad (aL S) q mA ln ma wo 7 (aL S) k = ma k := by simp [nAD]
        have e2 : nAD ad (aL S) q mA ln ma wo 8 (aL S) k9 = wo k9 := by simp [nAD]
        rw [e1, e2] at hw
        exact absurd hw (mq_neA (hm.1.1 k k1).1 (hm.1.1 k9 k2).2.1)
      · have k1 : k < 10 := by
          by_cases q7 : k < 10
          · exact q7
          · rw [show nCC G ad S X S2 Y O q mA ln ma wo 7 (aL S) k = none by simp [nCC, q7]] at he; cases he
        have e1 : nAD ad (aL S) q mA ln ma wo 7 (aL S) k = ma k := by simp [nAD]
        have e2 : nAD ad (aL S) q mA ln ma wo 9 (aL S) 0 = ln := by simp [nAD]
        rw [e1, e2] at hw
        exact absurd hw (mq_neA (hm.1.1 k k1).1 hm.2.2.2.2.2)
      · have k1 : k < 10 := by
          by_cases q7 : k < 10
          · exact q7
          · rw [show nCC G ad S X S2 Y O q mA ln ma wo 8 (aL S) k = none by simp [nCC, q7]] at he; cases he
        have e1 : nAD ad (aL S) q mA ln ma wo 8 (aL S) k = wo k := by simp [nAD]
        have e2 : nAD ad (aL S) q mA ln ma wo 5 (aL S) 0 = q := by simp [nAD]
        rw [e1, e2] at hw
        exact absurd hw (mq_neB (hm.1.1 k k1).2.1 hm.2.2.2.1)
      · have k1 : k < 10 := by
          by_cases q7 : k < 10
          · exact q7
          · rw [show nCC G ad S X S2 Y O q mA ln ma wo 8 (aL S) k = none by simp [nCC, q7]] at he; cases he
        have e1 : nAD ad (aL S) q mA ln ma wo 8 (aL S) k = wo k := by simp [nAD]
        have e2 : nAD ad (aL S) q mA ln ma wo 6 (aL S) 0 = mA := by simp [nAD]
        rw [e1, e2] at hw
        exact absurd hw (mq_neClq (hm.1.1 k k1).2.1 hm.2.2.2.2.1)
      · have k1 : k < 10 := by
          by_cases q7 : k < 10
          · exact q7
          · rw [show nCC G ad S X S2 Y O q mA ln ma wo 8 (aL S) k = none by simp [nCC, q7]] at he; cases he
        have k2 : k9 < 10 := by
          by_cases q7 : k9 < 10
          · exact q7
          · rw [show nCC G ad S X S2 Y O q mA ln ma wo 7 (aL S) k9 = none by simp [nCC, q7]] at he'; cases he'
        have e1 : nAD ad (aL S) q mA ln ma wo 8 (aL S) k = wo k := by simp [nAD]
        have e2 : nAD ad (aL S) q mA ln ma wo 7 (aL S) k9 = ma k9 := by simp [nAD]
        rw [e1, e2] at hw
        exact absurd hw (mq_neB (hm.1.1 k k1).2.1 (hm.1.1 k9 k2).1)
      · have k1 : k < 10 := by
          by_cases q7 : k < 10
          · exact q7
          · rw [show nCC G ad S X S2 Y O q mA ln ma wo 8 (aL S) k = none by simp [nCC, q7]] at he; cases he
        have k2 : k9 < 10 := by
          by_cases q7 : k9 < 10
          · exact q7
          · rw [show nCC G ad S X S2 Y O q mA ln ma wo 8 (aL S) k9 = none by simp [nCC, q7]] at he'; cases he'
        have e1 : nAD ad (aL S) q mA ln ma wo 8 (aL S) k = wo k := by simp [nAD]
        have e2 : nAD ad (aL S) q mA ln ma wo 8 (aL S) k9 = wo k9 := by simp [nAD]
        rw [e1, e2] at hw
        exact ⟨rfl, rfl, (hm.1.2.1 k k9 k1 k2).2.1 hw⟩
      · have k1 : k < 10 := by
          by_cases q7 : k < 10
          · exact q7
          · rw [show nCC G ad S X S2 Y O q mA ln ma wo 8 (aL S) k = none by simp [nCC, q7]] at he; cases he
        have e1 : nAD ad (aL S) q mA ln ma wo 8 (aL S) k = wo k := by simp [nAD]
        have e2 : nAD ad (aL S) q mA ln ma wo 9 (aL S) 0 = ln := by simp [nAD]
        rw [e1, e2] at hw
        exact absurd hw (mq_neCli (hm.1.1 k k1).2.1 hm.2.2.2.2.2)
      · have e1 : nAD ad (aL S) q mA ln ma wo 9 (aL S) 0 = ln := by simp [nAD]
        have e2 : nAD ad (aL S) q mA ln ma wo 5 (aL S) 0 = q := by simp [nAD]
        rw [e1, e2] at hw
        exact absurd hw (mq_neB hm.2.2.2.2.2 hm.2.2.2.1)
      · have e1 : nAD ad (aL S) q mA ln ma wo 9 (aL S) 0 = ln := by simp [nAD]
        have e2 : nAD ad (aL S) q mA ln ma wo 6 (aL S) 0 = mA := by simp [nAD]
        rw [e1, e2] at hw
        exact absurd hw (mq_neCiq hm.2.2.2.2.2 hm.2.2.2.2.1)
      · have k2 : k9 < 10 := by
          by_cases q7 : k9 < 10
          · exact q7
          · rw [show nCC G ad S X S2 Y O q mA ln ma wo 7 (aL S) k9 = none by simp [nCC, q7]] at he'; cases he'
        have e1 : nAD ad (aL S) q mA ln ma wo 9 (aL S) 0 = ln := by simp [nAD]
        have e2 : nAD ad (aL S) q mA ln ma wo 7 (aL S) k9 = ma k9 := by simp [nAD]
        rw [e1, e2] at hw
        exact absurd hw (mq_neB hm.2.2.2.2.2 (hm.1.1 k9 k2).1)
      · have k2 : k9 < 10 := by
          by_cases q7 : k9 < 10
          · exact q7
          · rw [show nCC G ad S X S2 Y O q mA ln ma wo 8 (aL S) k9 = none by simp [nCC, q7]] at he'; cases he'
        have e1 : nAD ad (aL S) q mA ln ma wo 9 (aL S) 0 = ln := by simp [nAD]
        have e2 : nAD ad (aL S) q mA ln ma wo 8 (aL S) k9 = wo k9 := by simp [nAD]
        rw [e1, e2] at hw
        exact absurd hw (mq_neCil hm.2.2.2.2.2 (hm.1.1 k9 k2).2.1)
      · exact ⟨rfl, rfl, rfl⟩
  have r2 := RR.put r1 (a := 2) (j := 0) (k := 0) (e0 := cRf (G.2 4) 4 (rf_of (aL S) (fun i => ad 5 i 0))) (t2 (G := G) (ad := ad) (S := S) (X := X) (S2 := S2) (Y := Y) (O := O)) rfl h3
  have r3 := RR.put r2 (a := 0) (j := 0) (k := 0) (e0 := _) ((cU_n (by simp)).trans (t0 (G := G) (ad := ad) (S := S) (X := X) (S2 := S2) (Y := Y) (O := O))) rfl hg
  rw [cT_al q mA ln ma wo] at r3; exact r3

theorem ok_learner {S : AT} {X : CX} {T : Nat} (h : cOK S X T) (hT : T < 512) (hl : aL S < 4) : cOK (nsLearner S) (nxLearner X (aL S)) (T + 1) := by
  have h9 := ok_mono h hT
  refine ⟨⟨h9.1.1, by show aL S + 1 ≤ 4; omega, h9.1.2.2⟩, h9.2.1, fun j k hj hk => ?_, fun j hj d hd => ?_, fun j hj => ?_, h9.2.2.2.2.2⟩
  · have hj : j < aL S + 1 := hj
    show maOK (aS S k) (aN S) k (T + 1) (if j = aL S then ma0 else aM S j k) (if j = aL S then (fun _ => 0) else xW X j k)
    by_cases e : j = aL S
    · rw [if_pos e, if_pos e]
      exact ⟨by decide, by decide, Nat.zero_le _, Nat.zero_le _, Nat.zero_le _, tie_0, fun _ => rfl, fun _ => ⟨rfl, rfl, rfl⟩⟩
    · rw [if_neg e, if_neg e]
      exact h9.2.2.1 j k (by omega) hk
  · have hj : j < aL S + 1 := hj
    show cntB (fun k => decide (mDu (if j = aL S then ma0 else aM S j k) = d)) (aN S) ≤ 2
    by_cases e : j = aL S
    · have : ∀ n, cntB (fun k => decide (mDu (if j = aL S then ma0 else aM S j k) = d)) n = 0 := by
        intro n
        induction n with
        | zero => rfl
        | succ n ih =>
          rw [cntB_f (by rw [if_pos e]; exact decide_eq_false (fun q => hd q.symm)), ih]
      rw [this]; omega
    · have : (fun k => decide (mDu (if j = aL S then ma0 else aM S j k) = d)) = (fun k => decide (mDu (aM S j k) = d)) := by
        funext k; rw [if_neg e]
      rw [this]; exact h.2.2.2.1 j (by omega) d hd
  · have hj : j < aL S + 1 := hj
    show (∀ e, lEx (fU (aE S) (aL S) (none, none, []) j) = some e → _) ∧ riOK (lMd (fU (aE S) (aL S) (none, none, []) j)) (fU (xLn X) (aL S) _ j) (fU (xOl X) (aL S) 0 j) ∧ (lMd (fU (aE S) (aL S) (none, none, []) j)).length ≤ T + 1
    by_cases e : j = aL S
    · rw [e, fU_s, fU_s, fU_s]
      refine ⟨fun e q => (by cases q), ⟨by decide, fun x hx => (by cases hx), fun t ht => ?_⟩, Nat.zero_le _⟩
      show (if (0 + 2 - t) % 3 < 3 then (-1 : Int32) else 0) = (if t < 0 then _ else -1)
      rw [if_pos (Nat.mod_lt _ (by decide)), if_neg (Nat.not_lt_zero t)]
    · rw [fU_n e, fU_n e, fU_n e]
      exact h9.2.2.2.2.1 j (by omega)
def spLearner (S : AT) : Nat × Int32 × AT := if aL S < 4 then (0, nI (aL S), nsLearner S) else (1, 0, S)

set_option maxHeartbeats 4000000 in
set_option maxRecDepth 100000 in
theorem c_X7_addLearner (l : Launch) (hfl : l.stackTraces = false) (G : mq_G) (A : Nat → Prop) (f : mq_F) (ad : AD) (S : AT) (X : CX) (S2 : AT) (Y : MX) (O : OX) (T : Nat)  : vx_Met l yX7_addLearner wsX7_addLearner ({ frames := 7, cells := 24, slots := 174, locals := 120 } : Room) (mq_Pc G A f (WR G f ad S X S2 Y O ∧ cOK S X T ∧ T < 512) [.ref (ad 0 0 0)]) (mq_Qi G A (fun r g => ∃ S9 X9 ad9, spLearner S = (0, r, S9) ∧ WR G g ad9 S9 X9 S2 Y O ∧ cOK S9 X9 (T + 1) ∧ adK ad ad9)) (mq_X G A (fun E g => f = g ∧ ((spLearner S).1 = 1 ∧ E = "java/lang/IllegalStateException"))) 24 174 A := by
  refine vx_ofW (cc := cX7_addLearner) (maxL := 1) (ret := (some .int)) (by decide) rfl ?_
  intro p e s m args below meth c s₁ B hml ht9 hv
  obtain ⟨rfl, ⟨hK, hZ, hM, hA⟩, hp⟩ := hv
  have hx := B.exec
  have hb := B.bytes
  have hr := B.returns
  have hts := atoms_spec (ws := wsX7_addLearner) B.pre
  have hown : s.vm.findClass RX7 = some m.cls := findClass_of_methodNamed B.named
  have hlocks := B.notSynchronized
  have hS : va_S A s.heap s.heap [] := va_S.rf
  have hl := lv_entry ([.ref (ad 0 0 0)]) (n := 1) (Nat.le_of_ble_eq_true rfl)
  rw [lg_entry_eq]
  generalize (lg_sl ([.ref (ad 0 0 0)]) ++ List.replicate (1 - (lg_sl ([.ref (ad 0 0 0)])).length) Slot.unset).toArray = ls at hl ⊢
  have hl : lv_has ls 1 [(0, .ref (ad 0 0 0))] := hl
  have w0 := hts (.fieldLink RX7 66 "Tutorlight" "learnerCount" "I") (List.mem_of_getElem? (i := 3) rfl)
  have w1 := hts (.fieldLink RX7 17 "Tutorlight" "learners" "[LTutorlight$Learner;") (List.mem_of_getElem? (i := 4) rfl)
  have w2 := hts (.classLink RX7 15 RX3) (List.mem_of_getElem? (i := 5) rfl)
  have w3 := hts (.instantiable RX3 5) (List.mem_of_getElem? (i := 6) rfl)
  have w4 := hts (.initialized RX3) (List.mem_of_getElem? (i := 7) rfl)
  have w5 := hts (.methodLink RX7 71 yX3_init) (List.mem_of_getElem? (i := 8) rfl)
  have w6 := hts (.instanceMethod yX3_init) (List.mem_of_getElem? (i := 9) rfl)
  have w7 := hts (.classLink RX7 36 "java/lang/IllegalStateException") (List.mem_of_getElem? (i := 1) rfl)
  have w8 := hts (.initialized "java/lang/IllegalStateException") (List.mem_of_getElem? (i := 2) rfl)
  have nX7 : ∀ w ∈ wsX70, w ∈ wsX7_addLearner := fun _ h => List.mem_cons_of_mem _ (List.mem_append_left _ (List.mem_append_left _ (List.mem_append_left _ (List.mem_append_left _ (List.mem_append_right _ h)))))
  have nX3 : ∀ w ∈ wsX30, w ∈ wsX7_addLearner := fun _ h => List.mem_cons_of_mem _ (List.mem_append_left _ (List.mem_append_left _ (List.mem_append_left _ (List.mem_append_right _ h))))
  obtain ⟨hR, hO, hT5⟩ := hp
  obtain ⟨⟨hn, hl4, hd2, hT⟩, hsk, hma, hdc, hle, hxb⟩ := id hO
  have y0_132 := hR.1 _ _ _ _ (t0)
  have y2_133 := hR.1 _ _ _ _ (t2)
  refine lv_aload_n hx hb dX7_addLearner_0 rfl (lv_at hl 0 rfl) ?_
  refine mq_get (ci := 12) (v := .int (nI (aL S))) (C := RX7) (T := TX7) (N := 6) hx hb hts nX7 hown hK hM y0_132 rfl 4 (by decide) w0 (fun _ h9 => h9) rfl dX7_addLearner_1 ?_
  refine lv_aload_n hx hb dX7_addLearner_4 rfl (lv_at hl 0 rfl) ?_
  refine mq_get (ci := 12) (v := .ref (ad 2 0 0)) (C := RX7) (T := TX7) (N := 6) hx hb hts nX7 hown hK hM y0_132 rfl 1 (by decide) w1 (fun _ h9 => h9) rfl dX7_addLearner_5 ?_
  refine mq_alen (t0 := 4) (v := 4) hx hb hK hM rfl y2_133 rfl dX7_addLearner_8 ?_
  refine lv_icmp_lt (tgt := 22) hx hb dX7_addLearner_9 (by decide) (fun c_9 => ?_) (fun c_9 => ?_)
  · replace c_9 : nI (aL S) < nI 4 := c_9
    rw [nI_ltI (by omega) (by omega)] at c_9
    refine lv_aload_n hx hb dX7_addLearner_22 rfl (lv_at hl 0 rfl) ?_
    refine mq_get (ci := 12) (v := .ref (ad 2 0 0)) (C := RX7) (T := TX7) (N := 6) hx hb hts nX7 hown hK hM y0_132 rfl 1 (by decide) w1 (fun _ h9 => h9) rfl dX7_addLearner_23 ?_
    refine lv_aload_n hx hb dX7_addLearner_26 rfl (lv_at hl 0 rfl) ?_
    refine mq_get (ci := 12) (v := .int (nI (aL S))) (C := RX7) (T := TX7) (N := 6) hx hb hts nX7 hown hK hM y0_132 rfl 4 (by decide) w0 (fun _ h9 => h9) rfl dX7_addLearner_27 ?_
    refine mq_new (ci := 8) (fs := [.null, .null, .null, .null, .int 0]) (C := RX3) (T := TX3) (N := 5) hx hb hts nX3 tyX3 tyX3_ok hown w2 w3 w4 hK hM hS hA rfl (fun j hj => by rcases (show j = 0 ∨ j = 1 ∨ j = 2 ∨ j = 3 ∨ j = 4 by omega) with rfl | rfl | rfl | rfl | rfl <;> rfl) (Nat.le_of_ble_eq_true rfl) (Nat.le_of_ble_eq_true rfl) dX7_addLearner_30 (fun q30 f_1 H hq30 e_2 hM hS => ?_)
    refine W.widen (k := 1) (n := 5) (Nat.le_of_ble_eq_true rfl) (Nat.le_of_ble_eq_true rfl) ?_
    have h_3 : f_1 (ad 0 0 0) = some (.inr (12, [.ref (ad 1 0 0), .ref (ad 2 0 0), .ref (ad 3 0 0), .int (nI (aN S)), .int (nI (aL S)), .int (nI (aD S))])) := mq_n e_2 y0_132 (mq_neN y0_132 hq30)
    have h_4 : f_1 (ad 2 0 0) = some (.inl (G.2 4, 4, .inr (.inr (.inr (.inr (rf_of (aL S) (fun i => ad 5 i 0))))))) := mq_n e_2 y2_133 (mq_neN y2_133 hq30)
    have h_5 : f_1 q30 = some (.inr (8, [.null, .null, .null, .null, .int 0])) := mq_s e_2
    refine lv_dup hx hb dX7_addLearner_33 rfl ?_
    refine mq_callv (va_runI (As := []) (rest := [.ref q30, .int (nI (aL S)), .ref (ad 2 0 0)]) ⟨hx, hb, hml, hown, hts⟩ (c_X3_init l G A f_1 q30) (cwI 0 hts gX7_addLearner_X3_init rfl rfl rfl w4 w5 w6 rfl (by decide +kernel) ⟨Nat.le_of_ble_eq_true rfl, Nat.le_of_ble_eq_true rfl⟩) (mq_preS hK hZ hS hA hM (h_5) _) rfl rfl hl.1 rfl (lv_room (Nat.le_of_ble_eq_true rfl)) dX7_addLearner_34 ⟨Nat.le_of_ble_eq_true rfl, Nat.le_of_ble_eq_true rfl⟩) hS (fun g34 H locs p34 hM hS => ?_)
    refine W.widen (k := 23) (n := 168) (Nat.le_of_ble_eq_true rfl) (Nat.le_of_ble_eq_true rfl) ?_
    obtain ⟨mA, ln, ma, wo, hm⟩ := p34
    have v0 := hm.1.2.2 _ _ (mq_neO h_3 h_5 (by decide)) h_3
    have v2 := hm.1.2.2 _ _ (mq_neB h_4 h_5) h_4
    have vq := hm.2.2.2.1
    refine mq_aast (t0 := 4) (ci := 8) hx hb hK hM hS rfl v2 vq rfl (vp_in_nI (by omega) (by omega)) dX7_addLearner_37 (fun f_6 H locs e_7 hM hS => ?_)
    rw [show (nI (aL S) : Int32).toNatClampNeg = aL S from nI_clamp (by omega)] at e_7
    rw [show (va_up (rf_of (aL S) (fun i => ad 5 i 0)) (aL S) (some q30)) = (rf_of (aL S + 1) (fun k => if k = aL S then q30 else ad 5 k 0)) from rf_S] at e_7
    have h_8 : f_6 (ad 0 0 0) = some (.inr (12, [.ref (ad 1 0 0), .ref (ad 2 0 0), .ref (ad 3 0 0), .int (nI (aN S)), .int (nI (aL S)), .int (nI (aD S))])) := mq_n e_7 v0 (mq_neA v0 v2)
    have h_9 : f_6 q30 = some (.inr (8, [.ref mA, .null, .null, .ref ln, .int (nI 0)])) := mq_n e_7 vq (Ne.symm (mq_neN y2_133 hq30))
    have h_10 : f_6 (ad 2 0 0) = some (.inl (G.2 4, 4, .inr (.inr (.inr (.inr (rf_of (aL S + 1) (fun k => if k = aL S then q30 else ad 5 k 0))))))) := mq_s e_7
    refine lv_aload_n hx hb dX7_addLearner_38 rfl (lv_at hl 0 rfl) ?_
    refine lv_dup hx hb dX7_addLearner_39 rfl ?_
    refine mq_get (ci := 12) (v := .int (nI (aL S))) (C := RX7) (T := TX7) (N := 6) hx hb hts nX7 hown hK hM h_8 rfl 4 (by decide) w0 (fun _ h9 => h9) rfl dX7_addLearner_40 ?_
    refine lv_iconst (v := 1) hx hb dX7_addLearner_43 (by decide) ?_
    refine lv_iadd hx hb dX7_addLearner_44 ?_
    rw [show (nI (aL S)) + 1 = nI ((aL S) + 1) from nI_add _ _]
    refine mq_put (ci := 12) (v := .int (nI ((aL S) + 1))) (ty := .int) (C := RX7) (T := TX7) (N := 6) (fs' := [.ref (ad 1 0 0), .ref (ad 2 0 0), .ref (ad 3 0 0), .int (nI (aN S)), .int (nI ((aL S) + 1)), .int (nI (aD S))]) hx hb hts nX7 tyX7 tyX7_ok nmX7 hown hK hM hS h_8 rfl 4 (by decide) w0 (fun _ h9 => h9) rfl (by decide +kernel) rfl rfl (Nat.le_of_ble_eq_true rfl) dX7_addLearner_45 rfl (fun f_11 H locs e_12 hM hS => ?_)
    have h_13 : f_11 q30 = some (.inr (8, [.ref mA, .null, .null, .ref ln, .int (nI 0)])) := mq_n e_12 h_9 (Ne.symm (mq_neN y0_132 hq30))
    have h_14 : f_11 (ad 2 0 0) = some (.inl (G.2 4, 4, .inr (.inr (.inr (.inr (rf_of (aL S + 1) (fun k => if k = aL S then q30 else ad 5 k 0))))))) := mq_n e_12 h_10 (mq_neB h_10 h_8)
    have h_15 : f_11 (ad 0 0 0) = some (.inr (12, [.ref (ad 1 0 0), .ref (ad 2 0 0), .ref (ad 3 0 0), .int (nI (aN S)), .int (nI ((aL S) + 1)), .int (nI (aD S))])) := mq_s e_12
    refine lv_aload_n hx hb dX7_addLearner_48 rfl (lv_at hl 0 rfl) ?_
    refine mq_get (ci := 12) (v := .int (nI ((aL S) + 1))) (C := RX7) (T := TX7) (N := 6) hx hb hts nX7 hown hK hM h_15 rfl 4 (by decide) w0 (fun _ h9 => h9) rfl dX7_addLearner_49 ?_
    refine lv_iconst (v := 1) hx hb dX7_addLearner_52 (by decide) ?_
    refine lv_isub hx hb dX7_addLearner_53 ?_
    rw [show (nI ((aL S) + 1)) - 1 = nI (((aL S) + 1) - 1) from pk_sub (a := (aL S) + 1) (b := 1) (by omega)]
    refine vx_ret ?_
    refine W.widen (k := 24) (n := 174) (Nat.le_of_ble_eq_true rfl) (Nat.le_of_ble_eq_true rfl) ?_
    exact mq_iret (v := nI (((aL S) + 1) - 1)) hx hb hr hlocks hM hS (⟨_, _, _, if_pos c_9, WR_al hR hq30 e_2 hm e_7 e_12, ok_learner hO hT5 c_9, ⟨rfl, rfl, rfl, rfl⟩⟩) dX7_addLearner_54
  · replace c_9 : ¬ nI (aL S) < nI 4 := c_9
    rw [nI_ltI (by omega) (by omega)] at c_9
    obtain ⟨sa, hsa⟩ := mq_str hZ (own := RX7) (k := 69) (tx := "no room for another learner") (by decide +kernel)
    refine vx_throwS (A := A) (own := RX7) (cls := "java/lang/IllegalStateException") (text := "no room for another learner") (names := ["java/lang/RuntimeException", "java/lang/Exception"]) (ik := 36) (is := 69) (ic := 40) hx hb hfl hown (by decide +kernel) (by decide +kernel) w7 w8 hsa (mq_hat hZ (fun w h => hts w (List.mem_cons_of_mem _ (List.mem_append_left _ (List.mem_append_right _ h)))) (by decide +kernel)) (by decide +kernel) hZ.1.1 hZ.1.2 hS (by rw [hml]; exact hl.1) dX7_addLearner_12 dX7_addLearner_15 dX7_addLearner_16 dX7_addLearner_18 dX7_addLearner_21 (fun x hx => (ht9 x hx).elim) (Nat.le_of_ble_eq_true rfl) (Nat.le_of_ble_eq_true rfl) (Nat.le_of_ble_eq_true rfl) (Nat.le_of_ble_eq_true rfl) hlocks (fun t9 hv9 hz9 hq9 => mq_thrown hM hS hz9 hq9 (⟨rfl, ⟨congrArg Prod.fst (show spLearner S = ((1, 0, S) : Nat × Int32 × AT) from if_neg c_9), rfl⟩⟩)) hS.2.2 (Nat.le_of_ble_eq_true rfl) (Nat.le_of_ble_eq_true rfl)

theorem mq_back {f h : mq_F} {x r : Nat} {ex : va_E} (hk : ∀ y e, y ≠ x → f y = some e → h y = some e) (hx : h x = some ex) (hr : h r = none) : f r = none := by
  cases hf : f r with
  | none => rfl
  | some e =>
    have : r ≠ x := fun w => by rw [w, hx] at hr; cases hr
    rw [hk r e this hf] at hr; cases hr
theorem du_1 : du 1 = 0 := rfl

set_option maxHeartbeats 4000000 in
set_option maxRecDepth 100000 in
theorem c_X7_init (l : Launch) (G : mq_G) (A : Nat → Prop) (f : mq_F) (x : Nat) : Met l yX7_init wsX7_init ({ frames := 3, cells := 11, slots := 48, locals := 69 } : Room) (mq_Pc G A f (f x = some (.inr (12, [.null, .null, .null, .int 0, .int 0, .int 0]))) [.ref x]) (mq_Qv G A (fun g => ∃ sA lA eA rA bA er eb, (f sA = none ∧ f lA = none ∧ f eA = none ∧ f rA = none ∧ f bA = none ∧ sA ≠ lA) ∧ (∀ k, k < 3 → f (er k) = none ∧ f (eb k) = none) ∧ xpD er eb ∧ rA ≠ bA ∧ xpC G g eA rA bA none er eb 1 ∧ (∀ y e, y ≠ x → f y = some e → g y = some e) ∧ g x = some (.inr (12, [.ref sA, .ref lA, .ref eA, .int 0, .int 0, .int 0])) ∧ g sA = some (cRf (G.2 6) 10 (fun _ => none)) ∧ g lA = some (cRf (G.2 4) 4 (fun _ => none)) ∧ (∀ k, k < 3 → g (er k) = some (cEq (0, 0, 0, 0)) ∧ g (eb k) = some (cEq (0, 0, 0, 0))))) 11 48 A := by
  refine Met.ofW (cc := cX7_init) (maxL := 1) (ret := none) (by decide) rfl ?_
  intro p e s m args below meth c s₁ B hml hv
  obtain ⟨rfl, ⟨hK, hZ, hM, hA⟩, hp⟩ := hv
  have hx := B.exec
  have hb := B.bytes
  have hr := B.returns
  have hts := atoms_spec (ws := wsX7_init) B.pre
  have hown : s.vm.findClass RX7 = some m.cls := findClass_of_methodNamed B.named
  have hlocks := B.notSynchronized
  have hin : meth.name = "<init>" := (name_of_methodNamed B.named B.method).1
  have hS : va_S A s.heap s.heap [] := va_S.rf
  have hl := lv_entry ([.ref x]) (n := 1) (Nat.le_of_ble_eq_true rfl)
  rw [lg_entry_eq]
  generalize (lg_sl ([.ref x]) ++ List.replicate (1 - (lg_sl ([.ref x])).length) Slot.unset).toArray = ls at hl ⊢
  have hl : lv_has ls 1 [(0, .ref x)] := hl
  have w0 := hts (.methodLink RX7 1 objectInit) (List.mem_of_getElem? (i := 1) rfl)
  have w1 := hts (.instanceMethod objectInit) (List.mem_of_getElem? (i := 2) rfl)
  have w2 := hts (.code objectInit ⟨#[0xb1]⟩ 1 none) (List.mem_of_getElem? (i := 3) rfl)
  have w3 := hts (.classLink RX7 9 RX5) (List.mem_of_getElem? (i := 4) rfl)
  have w4 := hts (.fieldLink RX7 11 "Tutorlight" "skills" "[LTutorlight$Skill;") (List.mem_of_getElem? (i := 5) rfl)
  have w5 := hts (.classLink RX7 15 RX3) (List.mem_of_getElem? (i := 6) rfl)
  have w6 := hts (.fieldLink RX7 17 "Tutorlight" "learners" "[LTutorlight$Learner;") (List.mem_of_getElem? (i := 7) rfl)
  have w7 := hts (.classLink RX7 21 RX2) (List.mem_of_getElem? (i := 8) rfl)
  have w8 := hts (.instantiable RX2 4) (List.mem_of_getElem? (i := 9) rfl)
  have w9 := hts (.initialized RX2) (List.mem_of_getElem? (i := 10) rfl)
  have w10 := hts (.methodLink RX7 23 yX2_init) (List.mem_of_getElem? (i := 12) rfl)
  have w11 := hts (.instanceMethod yX2_init) (List.mem_of_getElem? (i := 13) rfl)
  have w12 := hts (.fieldLink RX7 24 "Tutorlight" "explainer" "LTutorlight$Explainer;") (List.mem_of_getElem? (i := 11) rfl)
  have nX7 : ∀ w ∈ wsX70, w ∈ wsX7_init := fun _ h => List.mem_cons_of_mem _ (List.mem_append_left _ (List.mem_append_left _ (List.mem_append_right _ h)))
  have nX2 : ∀ w ∈ wsX20, w ∈ wsX7_init := fun _ h => List.mem_cons_of_mem _ (List.mem_append_left _ (List.mem_append_right _ h))
  refine lv_aload_n hx hb dX7_init_0 rfl (lv_at hl 0 rfl) ?_
  refine W.objInit hx hb hown w0 w1 w2 rfl (by rw [hml]; exact hl.1) rfl dX7_init_1 (Nat.le_of_ble_eq_true rfl) (Nat.le_of_ble_eq_true rfl) ?_
  refine W.eq (g2 := F0 m 4 ls []) rfl ?_
  refine lv_aload_n hx hb dX7_init_4 rfl (lv_at hl 0 rfl) ?_
  refine lv_bipush (v := 10) hx hb dX7_init_5 (by decide) ?_
  refine mq_newq (t0 := 6) (N' := 10) hx hb rfl hown w3 (mq_over hZ (by decide +kernel)) hK hM hS hA (by decide) (rfl) (Nat.le_of_ble_eq_true rfl) (Nat.le_of_ble_eq_true rfl) (Nat.le_of_ble_eq_true rfl) dX7_init_7 (fun q7 f_1 H hq7 e_2 hM hS => ?_)
  refine W.widen (k := 1) (n := 10) (Nat.le_of_ble_eq_true rfl) (Nat.le_of_ble_eq_true rfl) ?_
  have h_3 : f_1 x = some (.inr (12, [.null, .null, .null, .int 0, .int 0, .int 0])) := mq_n e_2 hp (mq_neN hp hq7)
  have h_4 : f_1 q7 = some (.inl (G.2 6, 10, .inr (.inr (.inr (.inr (fun _ => none)))))) := mq_s e_2
  refine mq_putF (ci := 12) (v := .ref q7) (ty := .array (.object "Tutorlight$Skill")) (C := RX7) (T := TX7) (N := 6) (fs' := [.ref q7, .null, .null, .int 0, .int 0, .int 0]) hx hb hts nX7 tyX7 tyX7_ok nmX7 hown hK hM hS h_3 rfl 0 (by decide) w4 (fun _ h9 => h9) rfl hin rfl (by decide +kernel) rfl rfl (Nat.le_of_ble_eq_true rfl) dX7_init_10 rfl (fun f_5 H locs e_6 hM hS => ?_)
  have h_7 : f_5 q7 = some (.inl (G.2 6, 10, .inr (.inr (.inr (.inr (fun _ => none)))))) := mq_n e_6 h_4 (Ne.symm (mq_neN hp hq7))
  have h_8 : f_5 x = some (.inr (12, [.ref q7, .null, .null, .int 0, .int 0, .int 0])) := mq_s e_6
  refine lv_aload_n hx hb dX7_init_13 rfl (lv_at hl 0 rfl) ?_
  refine lv_iconst (v := 4) hx hb dX7_init_14 (by decide) ?_
  refine mq_newq (t0 := 4) (N' := 4) hx hb rfl hown w5 (mq_over hZ (by decide +kernel)) hK hM hS hA (by decide) (rfl) (Nat.le_of_ble_eq_true rfl) (Nat.le_of_ble_eq_true rfl) (Nat.le_of_ble_eq_true rfl) dX7_init_15 (fun q15 f_9 H hq15 e_10 hM hS => ?_)
  refine W.widen (k := 2) (n := 14) (Nat.le_of_ble_eq_true rfl) (Nat.le_of_ble_eq_true rfl) ?_
  have h_11 : f_9 q7 = some (.inl (G.2 6, 10, .inr (.inr (.inr (.inr (fun _ => none)))))) := mq_n e_10 h_7 (mq_neN h_7 hq15)
  have h_12 : f_9 x = some (.inr (12, [.ref q7, .null, .null, .int 0, .int 0, .int 0])) := mq_n e_10 h_8 (mq_neN h_8 hq15)
  have h_13 : f_9 q15 = some (.inl (G.2 4, 4, .inr (.inr (.inr (.inr (fun _ => none)))))) := mq_s e_10
  refine mq_putF (ci := 12) (v := .ref q15) (ty := .array (.object "Tutorlight$Learner")) (C := RX7) (T := TX7) (N := 6) (fs' := [.ref q7, .ref q15, .null, .int 0, .int 0, .int 0]) hx hb hts nX7 tyX7 tyX7_ok nmX7 hown hK hM hS h_12 rfl 1 (by decide) w6 (fun _ h9 => h9) rfl hin rfl (by decide +kernel) rfl rfl (Nat.le_of_ble_eq_true rfl) dX7_init_18 rfl (fun f_14 H locs e_15 hM hS => ?_)
  have h_16 : f_14 q7 = some (.inl (G.2 6, 10, .inr (.inr (.inr (.inr (fun _ => none)))))) := mq_n e_15 h_11 (Ne.symm (mq_neN hp hq7))
  have h_17 : f_14 q15 = some (.inl (G.2 4, 4, .inr (.inr (.inr (.inr (fun _ => none)))))) := mq_n e_15 h_13 (Ne.symm (mq_neN h_8 hq15))
  have h_18 : f_14 x = some (.inr (12, [.ref q7, .ref q15, .null, .int 0, .int 0, .int 0])) := mq_s e_15
  refine lv_aload_n hx hb dX7_init_21 rfl (lv_at hl 0 rfl) ?_
  refine mq_new (ci := 7) (fs := [.null, .null, .null, .int 0]) (C := RX2) (T := TX2) (N := 4) hx hb hts nX2 tyX2 tyX2_ok hown w7 w8 w9 hK hM hS hA rfl (fun j hj => by rcases (show j = 0 ∨ j = 1 ∨ j = 2 ∨ j = 3 by omega) with rfl | rfl | rfl | rfl <;> rfl) (Nat.le_of_ble_eq_true rfl) (Nat.le_of_ble_eq_true rfl) dX7_init_22 (fun q22 f_19 H hq22 e_20 hM hS => ?_)
  refine W.widen (k := 3) (n := 18) (Nat.le_of_ble_eq_true rfl) (Nat.le_of_ble_eq_true rfl) ?_
  have h_21 : f_19 q7 = some (.inl (G.2 6, 10, .inr (.inr (.inr (.inr (fun _ => none)))))) := mq_n e_20 h_16 (mq_neN h_16 hq22)
  have h_22 : f_19 q15 = some (.inl (G.2 4, 4, .inr (.inr (.inr (.inr (fun _ => none)))))) := mq_n e_20 h_17 (mq_neN h_17 hq22)
  have h_23 : f_19 x = some (.inr (12, [.ref q7, .ref q15, .null, .int 0, .int 0, .int 0])) := mq_n e_20 h_18 (mq_neN h_18 hq22)
  have h_24 : f_19 q22 = some (.inr (7, [.null, .null, .null, .int 0])) := mq_s e_20
  refine lv_dup hx hb dX7_init_25 rfl ?_
  refine mq_callv (va_runI (As := []) (rest := [.ref q22, .ref x]) ⟨hx, hb, hml, hown, hts⟩ (c_X2_init l G A f_19 q22) (cwI 0 hts gX7_init_X2_init rfl rfl rfl w9 w10 w11 rfl (by decide +kernel) ⟨Nat.le_of_ble_eq_true rfl, Nat.le_of_ble_eq_true rfl⟩) (mq_preS hK hZ hS hA hM (h_24) _) rfl rfl hl.1 rfl (lv_room (Nat.le_of_ble_eq_true rfl)) dX7_init_26 ⟨Nat.le_of_ble_eq_true rfl, Nat.le_of_ble_eq_true rfl⟩) hS (fun g26 H locs p26 hM hS => ?_)
  refine W.widen (k := 11) (n := 48) (Nat.le_of_ble_eq_true rfl) (Nat.le_of_ble_eq_true rfl) ?_
  obtain ⟨rA, bA, er, eb, hI, hrA, hbA, hne, h3, h4, h5⟩ := p26
  have hf15 : f q15 = none := mq_fr e_2 (mq_fr e_6 hq15)
  have hf22 : f q22 = none := mq_fr e_2 (mq_fr e_6 (mq_fr e_10 (mq_fr e_15 hq22)))
  have kk : ∀ y e, y ≠ x → f y = some e → f_19 y = some e := fun y9 e9 hy he => by have kp0 := mq_n e_2 he (mq_neN he hq7); have kp1 := mq_n e_6 kp0 (hy); have kp2 := mq_n e_10 kp1 (mq_neN kp1 hq15); have kp3 := mq_n e_15 kp2 (hy); have kp4 := mq_n e_20 kp3 (mq_neN kp3 hq22); exact kp4
  have kk2 : ∀ y e, y ≠ x → f y = some e → g26 y = some e := fun y e hy he => hI.2.2 y e (mq_neN he hf22) (kk y e hy he)
  have bk : ∀ r, f_19 r = none → f r = none := fun r hr => mq_back kk h_23 hr
  have vx := hI.2.2 _ _ (mq_neO h_23 h_24 (by decide)) h_23
  have v7 := hI.2.2 _ _ (mq_neB h_21 h_24) h_21
  have v15 := hI.2.2 _ _ (mq_neB h_22 h_24) h_22
  have n715 := mq_neN h_7 hq15
  refine mq_putF (ci := 12) (v := .ref q22) (ty := .object "Tutorlight$Explainer") (C := RX7) (T := TX7) (N := 6) (fs' := [.ref q7, .ref q15, .ref q22, .int 0, .int 0, .int 0]) hx hb hts nX7 tyX7 tyX7_ok nmX7 hown hK hM hS vx rfl 2 (by decide) w12 (fun _ h9 => h9) rfl hin rfl (by decide +kernel) rfl rfl (Nat.le_of_ble_eq_true rfl) dX7_init_29 rfl (fun f_25 H locs e_26 hM hS => ?_)
  have h_27 : f_25 q7 = some (.inl (G.2 6, 10, .inr (.inr (.inr (.inr (fun _ => none)))))) := mq_n e_26 v7 (Ne.symm (mq_neN hp hq7))
  have h_28 : f_25 q15 = some (.inl (G.2 4, 4, .inr (.inr (.inr (.inr (fun _ => none)))))) := mq_n e_26 v15 (Ne.symm (mq_neN h_8 hq15))
  have h_29 : f_25 x = some (.inr (12, [.ref q7, .ref q15, .ref q22, .int 0, .int 0, .int 0])) := mq_s e_26
  exact mq_vret hx hb hr hlocks hM hS (⟨q7, q15, q22, rA, bA, er, eb, ⟨hq7, hf15, hf22, bk _ hrA, bk _ hbA, n715⟩, fun k hk => ⟨bk _ (hI.1 k hk).2.2.1, bk _ (hI.1 k hk).2.2.2⟩, hI.2.1, hne, ⟨mq_n e_26 (show g26 q22 = some (cXp rA bA none 1) by show _ = some (Sum.inr (7, [.ref rA, .ref bA, va_rf none, .int (du 1)]) : va_E); rw [du_1]; exact h3) (mq_neO h3 vx (by decide)), mq_n e_26 h4 (mq_neB h4 vx), mq_n e_26 h5 (mq_neB h5 vx), fun k hk => ⟨⟨_, mq_n e_26 (hI.1 k hk).1 (mq_neO (hI.1 k hk).1 vx (by decide))⟩, ⟨_, mq_n e_26 (hI.1 k hk).2.1 (mq_neO (hI.1 k hk).2.1 vx (by decide))⟩⟩⟩, fun y e hy he => mq_n e_26 (kk2 y e hy he) hy, mq_s e_26, mq_n e_26 v7 (mq_neB v7 vx), mq_n e_26 v15 (mq_neB v15 vx), fun k hk => ⟨mq_n e_26 (hI.1 k hk).1 (mq_neO (hI.1 k hk).1 vx (by decide)), mq_n e_26 (hI.1 k hk).2.1 (mq_neO (hI.1 k hk).2.1 vx (by decide))⟩⟩) dX7_init_32
