/-! MAKING AND STEPPING: states and what stays true -/
theorem WR_ri {G : mq_G} {f g : mq_F} {ad : AD} {S : AT} {X : CX} {S2 : AT} {Y : MX} {O : OX} {j : Nat} (hR : WR G f ad S X S2 Y O) (ln : Nat → Int32) (old : Nat) (hj : j < aL S) (hg : g = mq_up (mq_up f (ad 9 j 0) (cIn G 3 ln)) (ad 5 j 0) (cLe (ad 6 j 0) (oMap (lEx (aE S j)) (ad 10 j 0)) (oMap (lWs (aE S j)) (ad 12 j 0)) (ad 9 j 0) old)) : WR G g ad S (sRi X j ln old) S2 Y O := by
  have h1 := RR.put hR (t9 hj) rfl (g := mq_up f (ad 9 j 0) (cIn G 3 ln)) rfl
  have h2 := RR.put h1 (a := 5) (j := j) (k := 0) (e0 := _) ((cU_n (by simp)).trans (t5 hj)) rfl hg
  rw [cT_ri ln old hj] at h2; exact h2
theorem WR_mk {G : mq_G} {f g : mq_F} {ad : AD} {S : AT} {X : CX} {S2 : AT} {Y : MX} {O : OX} {f1 f2 f3 : mq_F} {j : Nat} {z : va_E} (hR : WR G f ad S X S2 Y O) (e : exT) (q1 q2 : Nat) (md : List Nat) (hj : j < aL S) (hq2 : f q2 = none) (h1 : f1 = mq_up f q2 z) (hq1 : f1 q1 = none) (h2 : f2 = mq_up f1 q1 (cEq e.2.2.1)) (h3 : f3 = mq_up f2 q2 (cEx e.1 (ex_sol e.2.1) q1 e.2.2.2.1 e.2.2.2.2)) (hg : g = mq_up f3 (ad 5 j 0) (cLe (ad 6 j 0) (some q2) (oMap (lWs (aE S j)) (ad 12 j 0)) (ad 9 j 0) (xOl X j))) : WR G g (adU (adU ad 11 j 0 q1) 10 j 0 q2) (sLe S j (some e, lWs (aE S j), md)) X S2 Y O := by
  obtain ⟨n1, n2⟩ := mq_nn h1 hq1
  have h3' : f3 = mq_up (mq_up f q1 (cEq e.2.2.1)) q2 (cEx e.1 (ex_sol e.2.1) q1 e.2.2.2.1 e.2.2.2.2) := by rw [h3, h2, h1]; exact mq_ucu n2.symm
  have r1 := RR.new (a := 11) (j := j) (k := 0) hR n1 (g := mq_up f q1 (cEq e.2.2.1)) rfl
  have r2 := RR.new (a := 10) (j := j) (k := 0) r1 (by rw [mq_up_n n2.symm]; exact hq2) h3'
  have r3 := RR.put r2 (a := 5) (j := j) (k := 0) ((cU_n (by simp)).trans ((cU_n (by simp)).trans (t5 hj))) rfl (e := cLe (ad 6 j 0) (some q2) (oMap (lWs (aE S j)) (ad 12 j 0)) (ad 9 j 0) (xOl X j)) hg
  rw [cT_mk e q1 q2 md hj] at r3; exact r3
theorem WR_rt {G : mq_G} {f g : mq_F} {ad : AD} {S : AT} {X : CX} {S2 : AT} {Y : MX} {O : OX} {f1 : mq_F} {j : Nat} {e : exT} (hR : WR G f ad S X S2 Y O) (q : eqT) (q1 : Nat) (hj : j < aL S) (he : lEx (aE S j) = some e) (hq1 : f q1 = none) (h1 : f1 = mq_up f q1 (cEq q)) (hg : g = mq_up f1 (ad 10 j 0) (cEx e.1 (ex_sol e.2.1) q1 e.2.2.2.1 e.2.2.2.2)) : WR G g (adU ad 11 j 0 q1) (sLe S j (some (e.1, e.2.1, q, e.2.2.2.1, e.2.2.2.2), lWs (aE S j), lMd (aE S j))) X S2 Y O := by
  have r1 := RR.new (a := 11) (j := j) (k := 0) hR hq1 h1
  have r2 := RR.put r1 (a := 10) (j := j) (k := 0) ((cU_n (by simp)).trans (t10 hj he)) rfl (e := cEx e.1 (ex_sol e.2.1) q1 e.2.2.2.1 e.2.2.2.2) hg
  rw [cT_rt q q1 hj he] at r2; exact r2
theorem WR_ws {G : mq_G} {f g : mq_F} {ad : AD} {S : AT} {X : CX} {S2 : AT} {Y : MX} {O : OX} {f1 f2 f3 f4 : mq_F} {j : Nat} {e : exT} {z : va_E} (hR : WR G f ad S X S2 Y O) (t9 : eqT) (qt qw : Nat) (hj : j < aL S) (he : lEx (aE S j) = some e) (hqt : f qt = none) (h1 : f1 = mq_up f qt (cEq t9)) (h2 : f2 = mq_up f1 (ad 10 j 0) (cEx e.1 (ex_sol e.2.1) (ad 11 j 0) (e.2.2.2.1 + 1) e.2.2.2.2)) (hqw : f2 qw = none) (h3 : f3 = mq_up f2 qw z) (h4 : f4 = mq_up f3 qw (.inr (11, [.ref (ad 11 j 0), .ref qt])))
    (hg : g = mq_up f4 (ad 5 j 0) (cLe (ad 6 j 0) (some (ad 10 j 0)) (some qw) (ad 9 j 0) (xOl X j))) : WR G g (adU (adU (adU ad 14 j 0 qt) 12 j 0 qw) 13 j 0 (ad 11 j 0)) (sLe S j (some (e.1, e.2.1, e.2.2.1, e.2.2.2.1 + 1, e.2.2.2.2), some (e.2.2.1, t9), lMd (aE S j))) X S2 Y O := by
  have hne : ad 10 j 0 ≠ qt := mq_neN (hR.1 _ _ _ _ (t10 hj he)) hqt
  have h2' : f2 = mq_up (mq_up f (ad 10 j 0) (cEx e.1 (ex_sol e.2.1) (ad 11 j 0) (e.2.2.2.1 + 1) e.2.2.2.2)) qt (cEq t9) := by rw [h2, h1]; exact mq_uc hne.symm
  have h4' : f4 = mq_up f2 qw (.inr (11, [.ref (ad 11 j 0), .ref qt])) := by rw [h4, h3, mq_uu]
  have r1 := RR.put hR (t10 hj he) rfl (e := cEx e.1 (ex_sol e.2.1) (ad 11 j 0) (e.2.2.2.1 + 1) e.2.2.2.2) (g := mq_up f (ad 10 j 0) _) rfl
  have r2 := RR.new (a := 14) (j := j) (k := 0) r1 (by rw [mq_up_n hne.symm]; exact hqt) h2'
  have r3 := RR.new (a := 12) (j := j) (k := 0) r2 hqw h4'
  have r4 := RR.same (a := 13) (j := j) (k := 0) (b := 11) (jb := j) (kb := 0) r3 ((cU_n (by simp)).trans ((cU_n (by simp)).trans ((cU_n (by simp)).trans (t11 hj he)))) rfl rfl
  have r5 := RR.put r4 (a := 5) (j := j) (k := 0) ((cU_n (by simp)).trans ((cU_n (by simp)).trans ((cU_n (by simp)).trans ((cU_n (by simp)).trans (t5 hj))))) rfl (e := cLe (ad 6 j 0) (some (ad 10 j 0)) (some qw) (ad 9 j 0) (xOl X j)) (g := g) (by rw [hg]; rfl)
  have e11 : adU (adU ad 14 j 0 qt) 12 j 0 qw 11 j 0 = ad 11 j 0 := rfl
  rw [e11] at r5
  rw [cT_ws e.2.2.1 t9 qt qw hj he] at r5; exact r5

set_option maxHeartbeats 2000000 in
theorem cT_no {G : mq_G} {ad : AD} {S : AT} {X : CX} {S2 : AT} {Y : MX} {O : OX} {j0 : Nat} (hj : j0 < aL S) : ∀ a j k e, (cT G ad (sLe S j0 (none, lWs (aE S j0), lMd (aE S j0))) X S2 Y O) a j k = some e → (cU (cT G ad S X S2 Y O) 5 j0 0 (cLe (ad 6 j0 0) none (oMap (lWs (aE S j0)) (ad 12 j0 0)) (ad 9 j0 0) (xOl X j0))) a j k = some e := by
  intro a j k e9 h9
  revert h9
  exact (match a with
    | 0 => by first | exact fun h => h | (simp [aN, aL, aD, aS, aM, aE, sTop, sSk, sMa, sLe, xW, xLn, xOl, xB, xSo, xR, xK, sW, sRi, sXp, lEx, lWs, lMd, cU, cT, fU, oMap]; done)
    | 1 => by first | exact fun h => h | (simp [aN, aL, aD, aS, aM, aE, sTop, sSk, sMa, sLe, xW, xLn, xOl, xB, xSo, xR, xK, sW, sRi, sXp, lEx, lWs, lMd, cU, cT, fU, oMap]; done)
    | 2 => by first | exact fun h => h | (simp [aN, aL, aD, aS, aM, aE, sTop, sSk, sMa, sLe, xW, xLn, xOl, xB, xSo, xR, xK, sW, sRi, sXp, lEx, lWs, lMd, cU, cT, fU, oMap]; done)
    | 3 => by first | exact fun h => h | (simp [aN, aL, aD, aS, aM, aE, sTop, sSk, sMa, sLe, xW, xLn, xOl, xB, xSo, xR, xK, sW, sRi, sXp, lEx, lWs, lMd, cU, cT, fU, oMap]; done)
    | 4 => by first | exact fun h => h | (simp [aN, aL, aD, aS, aM, aE, sTop, sSk, sMa, sLe, xW, xLn, xOl, xB, xSo, xR, xK, sW, sRi, sXp, lEx, lWs, lMd, cU, cT, fU, oMap]; done)
    | 5 => by
        by_cases h : j = j0
        · subst h; by_cases h2 : k = 0 <;> simp [aN, aL, aD, aS, aM, aE, sTop, sSk, sMa, sLe, xW, xLn, xOl, xB, xSo, xR, xK, sW, sRi, sXp, lEx, lWs, lMd, cU, cT, fU, oMap, h2, hj]
        · simp [aN, aL, aD, aS, aM, aE, sTop, sSk, sMa, sLe, xW, xLn, xOl, xB, xSo, xR, xK, sW, sRi, sXp, lEx, lWs, lMd, cU, cT, fU, oMap, h]
    | 6 => by first | exact fun h => h | (simp [aN, aL, aD, aS, aM, aE, sTop, sSk, sMa, sLe, xW, xLn, xOl, xB, xSo, xR, xK, sW, sRi, sXp, lEx, lWs, lMd, cU, cT, fU, oMap]; done)
    | 7 => by first | exact fun h => h | (simp [aN, aL, aD, aS, aM, aE, sTop, sSk, sMa, sLe, xW, xLn, xOl, xB, xSo, xR, xK, sW, sRi, sXp, lEx, lWs, lMd, cU, cT, fU, oMap]; done)
    | 8 => by first | exact fun h => h | (simp [aN, aL, aD, aS, aM, aE, sTop, sSk, sMa, sLe, xW, xLn, xOl, xB, xSo, xR, xK, sW, sRi, sXp, lEx, lWs, lMd, cU, cT, fU, oMap]; done)
    | 9 => by first | exact fun h => h | (simp [aN, aL, aD, aS, aM, aE, sTop, sSk, sMa, sLe, xW, xLn, xOl, xB, xSo, xR, xK, sW, sRi, sXp, lEx, lWs, lMd, cU, cT, fU, oMap]; done)
    | 10 => by
        by_cases h : j = j0
        · subst h; by_cases h2 : k = 0 <;> simp [aN, aL, aD, aS, aM, aE, sTop, sSk, sMa, sLe, xW, xLn, xOl, xB, xSo, xR, xK, sW, sRi, sXp, lEx, lWs, lMd, cU, cT, fU, oMap, h2, hj]
        · simp [aN, aL, aD, aS, aM, aE, sTop, sSk, sMa, sLe, xW, xLn, xOl, xB, xSo, xR, xK, sW, sRi, sXp, lEx, lWs, lMd, cU, cT, fU, oMap, h]
    | 11 => by
        by_cases h : j = j0
        · subst h; by_cases h2 : k = 0 <;> simp [aN, aL, aD, aS, aM, aE, sTop, sSk, sMa, sLe, xW, xLn, xOl, xB, xSo, xR, xK, sW, sRi, sXp, lEx, lWs, lMd, cU, cT, fU, oMap, h2, hj]
        · simp [aN, aL, aD, aS, aM, aE, sTop, sSk, sMa, sLe, xW, xLn, xOl, xB, xSo, xR, xK, sW, sRi, sXp, lEx, lWs, lMd, cU, cT, fU, oMap, h]
    | 12 => by
        by_cases h : j = j0
        · subst h; by_cases h2 : k = 0 <;> simp [aN, aL, aD, aS, aM, aE, sTop, sSk, sMa, sLe, xW, xLn, xOl, xB, xSo, xR, xK, sW, sRi, sXp, lEx, lWs, lMd, cU, cT, fU, oMap, h2, hj]
        · simp [aN, aL, aD, aS, aM, aE, sTop, sSk, sMa, sLe, xW, xLn, xOl, xB, xSo, xR, xK, sW, sRi, sXp, lEx, lWs, lMd, cU, cT, fU, oMap, h]
    | 13 => by
        by_cases h : j = j0
        · subst h; by_cases h2 : k = 0 <;> simp [aN, aL, aD, aS, aM, aE, sTop, sSk, sMa, sLe, xW, xLn, xOl, xB, xSo, xR, xK, sW, sRi, sXp, lEx, lWs, lMd, cU, cT, fU, oMap, h2, hj]
        · simp [aN, aL, aD, aS, aM, aE, sTop, sSk, sMa, sLe, xW, xLn, xOl, xB, xSo, xR, xK, sW, sRi, sXp, lEx, lWs, lMd, cU, cT, fU, oMap, h]
    | 14 => by
        by_cases h : j = j0
        · subst h; by_cases h2 : k = 0 <;> simp [aN, aL, aD, aS, aM, aE, sTop, sSk, sMa, sLe, xW, xLn, xOl, xB, xSo, xR, xK, sW, sRi, sXp, lEx, lWs, lMd, cU, cT, fU, oMap, h2, hj]
        · simp [aN, aL, aD, aS, aM, aE, sTop, sSk, sMa, sLe, xW, xLn, xOl, xB, xSo, xR, xK, sW, sRi, sXp, lEx, lWs, lMd, cU, cT, fU, oMap, h]
    | 15 => by first | exact fun h => h | (simp [aN, aL, aD, aS, aM, aE, sTop, sSk, sMa, sLe, xW, xLn, xOl, xB, xSo, xR, xK, sW, sRi, sXp, lEx, lWs, lMd, cU, cT, fU, oMap]; done)
    | 16 => by first | exact fun h => h | (simp [aN, aL, aD, aS, aM, aE, sTop, sSk, sMa, sLe, xW, xLn, xOl, xB, xSo, xR, xK, sW, sRi, sXp, lEx, lWs, lMd, cU, cT, fU, oMap]; done)
    | 17 => by first | exact fun h => h | (simp [aN, aL, aD, aS, aM, aE, sTop, sSk, sMa, sLe, xW, xLn, xOl, xB, xSo, xR, xK, sW, sRi, sXp, lEx, lWs, lMd, cU, cT, fU, oMap]; done)
    | 18 => by first | exact fun h => h | (simp [aN, aL, aD, aS, aM, aE, sTop, sSk, sMa, sLe, xW, xLn, xOl, xB, xSo, xR, xK, sW, sRi, sXp, lEx, lWs, lMd, cU, cT, fU, oMap]; done)
    | 19 => by first | exact fun h => h | (simp [aN, aL, aD, aS, aM, aE, sTop, sSk, sMa, sLe, xW, xLn, xOl, xB, xSo, xR, xK, sW, sRi, sXp, lEx, lWs, lMd, cU, cT, fU, oMap]; done)
    | 20 => by first | exact fun h => h | (simp [aN, aL, aD, aS, aM, aE, sTop, sSk, sMa, sLe, xW, xLn, xOl, xB, xSo, xR, xK, sW, sRi, sXp, lEx, lWs, lMd, cU, cT, fU, oMap]; done)
    | 21 => by first | exact fun h => h | (simp [aN, aL, aD, aS, aM, aE, sTop, sSk, sMa, sLe, xW, xLn, xOl, xB, xSo, xR, xK, sW, sRi, sXp, lEx, lWs, lMd, cU, cT, fU, oMap]; done)
    | 22 => by first | exact fun h => h | (simp [aN, aL, aD, aS, aM, aE, sTop, sSk, sMa, sLe, xW, xLn, xOl, xB, xSo, xR, xK, sW, sRi, sXp, lEx, lWs, lMd, cU, cT, fU, oMap]; done)
    | 23 => by first | exact fun h => h | (simp [aN, aL, aD, aS, aM, aE, sTop, sSk, sMa, sLe, xW, xLn, xOl, xB, xSo, xR, xK, sW, sRi, sXp, lEx, lWs, lMd, cU, cT, fU, oMap]; done)
    | 24 => by first | exact fun h => h | (simp [aN, aL, aD, aS, aM, aE, sTop, sSk, sMa, sLe, xW, xLn, xOl, xB, xSo, xR, xK, sW, sRi, sXp, lEx, lWs, lMd, cU, cT, fU, oMap]; done)
    | 25 => by first | exact fun h => h | (simp [aN, aL, aD, aS, aM, aE, sTop, sSk, sMa, sLe, xW, xLn, xOl, xB, xSo, xR, xK, sW, sRi, sXp, lEx, lWs, lMd, cU, cT, fU, oMap]; done)
    | 26 => by first | exact fun h => h | (simp [aN, aL, aD, aS, aM, aE, sTop, sSk, sMa, sLe, xW, xLn, xOl, xB, xSo, xR, xK, sW, sRi, sXp, lEx, lWs, lMd, cU, cT, fU, oMap]; done)
    | 27 => by first | exact fun h => h | (simp [aN, aL, aD, aS, aM, aE, sTop, sSk, sMa, sLe, xW, xLn, xOl, xB, xSo, xR, xK, sW, sRi, sXp, lEx, lWs, lMd, cU, cT, fU, oMap]; done)
    | 28 => by first | exact fun h => h | (simp [aN, aL, aD, aS, aM, aE, sTop, sSk, sMa, sLe, xW, xLn, xOl, xB, xSo, xR, xK, sW, sRi, sXp, lEx, lWs, lMd, cU, cT, fU, oMap]; done)
    | 29 => by first | exact fun h => h | (simp [aN, aL, aD, aS, aM, aE, sTop, sSk, sMa, sLe, xW, xLn, xOl, xB, xSo, xR, xK, sW, sRi, sXp, lEx, lWs, lMd, cU, cT, fU, oMap]; done)
    | 30 => by first | exact fun h => h | (simp [aN, aL, aD, aS, aM, aE, sTop, sSk, sMa, sLe, xW, xLn, xOl, xB, xSo, xR, xK, sW, sRi, sXp, lEx, lWs, lMd, cU, cT, fU, oMap]; done)
    | 31 => by first | exact fun h => h | (simp [aN, aL, aD, aS, aM, aE, sTop, sSk, sMa, sLe, xW, xLn, xOl, xB, xSo, xR, xK, sW, sRi, sXp, lEx, lWs, lMd, cU, cT, fU, oMap]; done)
    | 32 => by first | exact fun h => h | (simp [aN, aL, aD, aS, aM, aE, sTop, sSk, sMa, sLe, xW, xLn, xOl, xB, xSo, xR, xK, sW, sRi, sXp, lEx, lWs, lMd, cU, cT, fU, oMap]; done)
    | 33 => by first | exact fun h => h | (simp [aN, aL, aD, aS, aM, aE, sTop, sSk, sMa, sLe, xW, xLn, xOl, xB, xSo, xR, xK, sW, sRi, sXp, lEx, lWs, lMd, cU, cT, fU, oMap]; done)
    | 34 => by first | exact fun h => h | (simp [aN, aL, aD, aS, aM, aE, sTop, sSk, sMa, sLe, xW, xLn, xOl, xB, xSo, xR, xK, sW, sRi, sXp, lEx, lWs, lMd, cU, cT, fU, oMap]; done)
    | 35 => by first | exact fun h => h | (simp [aN, aL, aD, aS, aM, aE, sTop, sSk, sMa, sLe, xW, xLn, xOl, xB, xSo, xR, xK, sW, sRi, sXp, lEx, lWs, lMd, cU, cT, fU, oMap]; done)
    | 36 => by first | exact fun h => h | (simp [aN, aL, aD, aS, aM, aE, sTop, sSk, sMa, sLe, xW, xLn, xOl, xB, xSo, xR, xK, sW, sRi, sXp, lEx, lWs, lMd, cU, cT, fU, oMap]; done)
    | 37 => by first | exact fun h => h | (simp [aN, aL, aD, aS, aM, aE, sTop, sSk, sMa, sLe, xW, xLn, xOl, xB, xSo, xR, xK, sW, sRi, sXp, lEx, lWs, lMd, cU, cT, fU, oMap]; done)
    | 38 => by first | exact fun h => h | (simp [aN, aL, aD, aS, aM, aE, sTop, sSk, sMa, sLe, xW, xLn, xOl, xB, xSo, xR, xK, sW, sRi, sXp, lEx, lWs, lMd, cU, cT, fU, oMap]; done)
    | 39 => by first | exact fun h => h | (simp [aN, aL, aD, aS, aM, aE, sTop, sSk, sMa, sLe, xW, xLn, xOl, xB, xSo, xR, xK, sW, sRi, sXp, lEx, lWs, lMd, cU, cT, fU, oMap]; done)
    | n + 40 => by first | exact fun h => h | (simp [aN, aL, aD, aS, aM, aE, sTop, sSk, sMa, sLe, xW, xLn, xOl, xB, xSo, xR, xK, sW, sRi, sXp, lEx, lWs, lMd, cU, cT, fU, oMap]; done))

theorem WR_no {G : mq_G} {f g : mq_F} {ad : AD} {S : AT} {X : CX} {S2 : AT} {Y : MX} {O : OX} {j : Nat} (hR : WR G f ad S X S2 Y O) (hj : j < aL S) (hg : g = mq_up f (ad 5 j 0) (cLe (ad 6 j 0) none (oMap (lWs (aE S j)) (ad 12 j 0)) (ad 9 j 0) (xOl X j))) : WR G g ad (sLe S j (none, lWs (aE S j), lMd (aE S j))) X S2 Y O :=
  RR.sub (RR.put hR (t5 hj) rfl hg) (cT_no hj)
/-- the three last numbers -/
def ltP (md : List Nat) (w t : Nat) : Bool := decide (t < md.length ∧ md.getD (md.length - 1 - t) 0 = w)
def lat (md : List Nat) (w : Nat) : Bool := ltP md w 0 || (ltP md w 1 || ltP md w 2)
theorem lat_iff {md : List Nat} {w : Nat} : lat md w = true ↔ ∃ t, t < 3 ∧ t < md.length ∧ md.getD (md.length - 1 - t) 0 = w := by
  unfold lat ltP
  simp only [Bool.or_eq_true, decide_eq_true_eq]
  constructor
  · rintro (h | h | h)
    · exact ⟨0, by decide, h⟩
    · exact ⟨1, by decide, h⟩
    · exact ⟨2, by decide, h⟩
  · rintro ⟨t, ht, h⟩
    rcases (show t = 0 ∨ t = 1 ∨ t = 2 by omega) with rfl | rfl | rfl
    · exact Or.inl h
    · exact Or.inr (Or.inl h)
    · exact Or.inr (Or.inr h)
theorem ring_at {md : List Nat} {ln : Nat → Int32} {old : Nat} (h : riOK md ln old) {w : Nat} (hw : w < 1260) {t : Nat} (ht : t < 3) : ln ((old + 2 - t) % 3) = nI w ↔ t < md.length ∧ md.getD (md.length - 1 - t) 0 = w := by
  rw [h.2.2 t ht]
  by_cases hl : t < md.length
  · rw [if_pos hl]
    have hm : md.getD (md.length - 1 - t) 0 < 1260 := by
      have hi : md.length - 1 - t < md.length := by omega
      have : md.getD (md.length - 1 - t) 0 = md[md.length - 1 - t] := by simp [hi]
      rw [this]; exact h.2.1 _ (List.getElem_mem hi)
    rw [nI_eq (by omega) (by omega)]
    exact ⟨fun q => ⟨hl, q⟩, fun q => q.2⟩
  · rw [if_neg hl]
    refine ⟨fun q => absurd q ?_, fun q => absurd q.1 hl⟩
    intro q
    have := congrArg Int32.toInt q
    rw [nI_toInt (by omega), show ((-1 : Int32)).toInt = -1 from rfl] at this
    omega
theorem ring_lat {md : List Nat} {ln : Nat → Int32} {old : Nat} (h : riOK md ln old) {w : Nat} (hw : w < 1260) : decide (ln 0 = nI w ∨ ln 1 = nI w ∨ ln 2 = nI w) = lat md w := by
  have h0 := ring_at h hw (t := 0) (by decide)
  have h1 := ring_at h hw (t := 1) (by decide)
  have h2 := ring_at h hw (t := 2) (by decide)
  have ho := h.1
  suffices hs : (ln 0 = nI w ∨ ln 1 = nI w ∨ ln 2 = nI w) ↔ ∃ t, t < 3 ∧ t < md.length ∧ md.getD (md.length - 1 - t) 0 = w by
    rw [← lat_iff] at hs
    cases hL : lat md w with
    | true => exact decide_eq_true (hs.mpr hL)
    | false => exact decide_eq_false (fun q => by rw [hs.mp q] at hL; cases hL)
  constructor
  · intro q
    rcases (show old = 0 ∨ old = 1 ∨ old = 2 by omega) with rfl | rfl | rfl
    · rcases q with q | q | q
      · exact ⟨2, by decide, h2.mp q⟩
      · exact ⟨1, by decide, h1.mp q⟩
      · exact ⟨0, by decide, h0.mp q⟩
    · rcases q with q | q | q
      · exact ⟨0, by decide, h0.mp q⟩
      · exact ⟨2, by decide, h2.mp q⟩
      · exact ⟨1, by decide, h1.mp q⟩
    · rcases q with q | q | q
      · exact ⟨1, by decide, h1.mp q⟩
      · exact ⟨0, by decide, h0.mp q⟩
      · exact ⟨2, by decide, h2.mp q⟩
  · rintro ⟨t, ht, hq⟩
    rcases (show t = 0 ∨ t = 1 ∨ t = 2 by omega) with rfl | rfl | rfl
    · have := h0.mpr hq
      rcases (show old = 0 ∨ old = 1 ∨ old = 2 by omega) with rfl | rfl | rfl
      · exact Or.inr (Or.inr this)
      · exact Or.inl this
      · exact Or.inr (Or.inl this)
    · have := h1.mpr hq
      rcases (show old = 0 ∨ old = 1 ∨ old = 2 by omega) with rfl | rfl | rfl
      · exact Or.inr (Or.inl this)
      · exact Or.inr (Or.inr this)
      · exact Or.inl this
    · have := h2.mpr hq
      rcases (show old = 0 ∨ old = 1 ∨ old = 2 by omega) with rfl | rfl | rfl
      · exact Or.inl this
      · exact Or.inr (Or.inl this)
      · exact Or.inr (Or.inr this)
theorem ring_add {md : List Nat} {ln : Nat → Int32} {old : Nat} (h : riOK md ln old) {w : Nat} (hw : w < 1260) : riOK (md ++ [w]) (upd ln old (nI w)) ((old + 1) % 3) := by
  have ho := h.1
  refine ⟨Nat.mod_lt _ (by decide), fun x hx => ?_, fun t ht => ?_⟩
  · rcases List.mem_append.mp hx with q | q
    · exact h.2.1 x q
    · rw [List.mem_singleton.mp q]; exact hw
  · rw [List.length_append, List.length_singleton]
    by_cases h0 : t = 0
    · subst h0
      rw [if_pos (by omega), show ((old + 1) % 3 + 2 - 0) % 3 = old by omega, pk_us]
      simp
    · have e1 : ((old + 1) % 3 + 2 - t) % 3 = (old + 2 - (t - 1)) % 3 := by omega
      have e2 : (old + 2 - (t - 1)) % 3 ≠ old := by omega
      rw [e1, pk_un e2, h.2.2 (t - 1) (by omega)]
      by_cases hl : t < md.length + 1
      · rw [if_pos hl, if_pos (by omega), show md.length + 1 - 1 - t = md.length - 1 - (t - 1) by omega]
        have hi : md.length - 1 - (t - 1) < md.length := by omega
        simp [List.getElem?_append_left hi]
      · rw [if_neg hl, if_neg (by omega)]
def mkT (p : Nat → Bool) : Nat → Nat → Nat
  | 0, w => w
  | n + 1, w => if p w then mkT p n ((w + 1) % 1260) else w
theorem mkT_t {p : Nat → Bool} {n w : Nat} (h : p w = true) : mkT p (n + 1) w = mkT p n ((w + 1) % 1260) := by
  show (if p w then mkT p n ((w + 1) % 1260) else w) = _
  rw [if_pos h]
theorem mkT_f {p : Nat → Bool} {n w : Nat} (h : p w = false) : mkT p n w = w := by
  cases n with
  | zero => rfl
  | succ n => show (if p w then mkT p n ((w + 1) % 1260) else w) = _; rw [if_neg (by rw [h]; decide)]
theorem mkT_lt {p : Nat → Bool} : ∀ (n w : Nat), w < 1260 → mkT p n w < 1260
  | 0, w, h => h
  | n + 1, w, h => by
    show (if p w then mkT p n ((w + 1) % 1260) else w) < 1260
    split
    · exact mkT_lt n _ (Nat.mod_lt _ (by decide))
    · exact h
abbrev nsMake (S : AT) (j k n : Nat) : AT := sLe S j (some (k, n, ex_eq n, 0, 0), lWs (aE S j), lMd (aE S j) ++ [n])
abbrev spMake (S : AT) (i1 i2 n : Int32) : Nat × Int32 × AT := spLS S i1 i2 (fun j k => if vI n 1260 then (if opn S j k then (0, nI (mkT (lat (lMd (aE S j))) 3 n.toNatClampNeg), nsMake S j k (mkT (lat (lMd (aE S j))) 3 n.toNatClampNeg)) else (3, 0, S)) else (2, 0, S)) (0, S)
theorem ex_eq_ok {n : Nat} (h : n < 1260) : eqOK (ex_eq n) (ex_sol n) := by
  have hs : (ex_sol n).toInt = ((n / 14 % 10 : Nat) : Int) - 4 := ex_solI
  have hb : (ex_b n).toInt = ((n / 140 % 9 : Nat) : Int) - 4 := pk_sub_toInt (b := 4) (by omega) (by decide)
  have ha : (nI (2 + n % 7)).toInt = ((2 + n % 7 : Nat) : Int) := nI_toInt (by omega)
  have hc : (nI (n / 7 % 2)).toInt = ((n / 7 % 2 : Nat) : Int) := nI_toInt (by omega)
  have hc01 : n / 7 % 2 = 0 ∨ n / 7 % 2 = 1 := by omega
  obtain ⟨a9, ea⟩ : ∃ a9 : Nat, a9 = 2 + n % 7 := ⟨_, rfl⟩
  obtain ⟨s9, es⟩ : ∃ s9 : Nat, s9 = n / 14 % 10 := ⟨_, rfl⟩
  obtain ⟨b9, eb⟩ : ∃ b9 : Nat, b9 = n / 140 % 9 := ⟨_, rfl⟩
  have ha9 : a9 ≤ 8 ∧ 2 ≤ a9 := by omega
  have hs9 : s9 ≤ 9 := by omega
  have hb9 : b9 ≤ 8 := by omega
  rw [← ea] at ha; rw [← es] at hs; rw [← eb] at hb
  have hprod : (nI a9 * ex_sol n).toInt = (a9 : Int) * ((s9 : Int) - 4) := by
    have hbd : -32 ≤ (a9 : Int) * ((s9 : Int) - 4) ∧ (a9 : Int) * ((s9 : Int) - 4) ≤ 40 := by
      rcases (show a9 = 2 ∨ a9 = 3 ∨ a9 = 4 ∨ a9 = 5 ∨ a9 = 6 ∨ a9 = 7 ∨ a9 = 8 by omega) with rfl | rfl | rfl | rfl | rfl | rfl | rfl <;> omega
    rw [fb_mulI (by rw [ha, hs]; omega) (by rw [ha, hs]; omega), ha, hs]
  have hcx : (nI (n / 7 % 2) * ex_sol n).toInt = ((n / 7 % 2 : Nat) : Int) * ((s9 : Int) - 4) := by
    rcases hc01 with q | q <;> rw [q] at hc ⊢ <;> rw [fb_mulI (by rw [hc, hs]; omega) (by rw [hc, hs]; omega), hc, hs]
  have hbd : -32 ≤ (a9 : Int) * ((s9 : Int) - 4) ∧ (a9 : Int) * ((s9 : Int) - 4) ≤ 40 := by
    rcases (show a9 = 2 ∨ a9 = 3 ∨ a9 = 4 ∨ a9 = 5 ∨ a9 = 6 ∨ a9 = 7 ∨ a9 = 8 by omega) with rfl | rfl | rfl | rfl | rfl | rfl | rfl <;> omega
  have hbc : -4 ≤ ((n / 7 % 2 : Nat) : Int) * ((s9 : Int) - 4) ∧ ((n / 7 % 2 : Nat) : Int) * ((s9 : Int) - 4) ≤ 5 := by
    rcases hc01 with q | q <;> rw [q] <;> omega
  have e1 : (nI a9 * ex_sol n + ex_b n).toInt = (a9 : Int) * ((s9 : Int) - 4) + ((b9 : Int) - 4) := by
    rw [fb_addI (by rw [hprod, hb]; omega) (by rw [hprod, hb]; omega), hprod, hb]
  have e2 : (nI a9 * ex_sol n + ex_b n - nI (n / 7 % 2) * ex_sol n).toInt = (a9 : Int) * ((s9 : Int) - 4) + ((b9 : Int) - 4) - ((n / 7 % 2 : Nat) : Int) * ((s9 : Int) - 4) := by
    rw [fb_subI (by rw [e1, hcx]; omega) (by rw [e1, hcx]; omega), e1, hcx]
  unfold ex_eq
  rw [← ea]
  refine ⟨fun z hz => ?_, ?_, ?_⟩
  · simp only [List.mem_cons, List.not_mem_nil, or_false] at hz
    rcases hz with rfl | rfl | rfl | rfl
    · rw [ha]; omega
    · rw [hb]; omega
    · rw [hc]; omega
    · rw [e2]; omega
  · show (nI a9).toInt ≠ (nI (n / 7 % 2)).toInt
    rw [ha, hc]; omega
  · show ((nI a9).toInt - (nI (n / 7 % 2)).toInt) * (ex_sol n).toInt = (nI a9 * ex_sol n + ex_b n - nI (n / 7 % 2) * ex_sol n).toInt - (ex_b n).toInt
    rw [ha, hc, hs, e2, hb, Int.sub_mul]; omega
theorem ok_make {S : AT} {X : CX} {T j k n : Nat} (h : cOK S X T) (hT : T < 512) (hj : j < aL S) (hk : k < aN S) (hn : n < 1260) : cOK (nsMake S j k n) (sRi X j (upd (xLn X j) (xOl X j) (nI n)) ((xOl X j + 1) % 3)) (T + 1) := by
  have h9 := ok_mono h hT
  refine ⟨h9.1, h9.2.1, h9.2.2.1, h9.2.2.2.1, fun j' hj' => ?_, h9.2.2.2.2.2⟩
  by_cases e : j' = j
  · subst e
    show (∀ e, lEx (fU (aE S) j' _ j') = some e → _) ∧ riOK (lMd (fU (aE S) j' _ j')) (fU (xLn X) j' _ j') (fU (xOl X) j' _ j') ∧ (lMd (fU (aE S) j' _ j')).length ≤ _
    rw [fU_s, fU_s, fU_s]
    obtain ⟨a1, a2, a3⟩ := h.2.2.2.2.1 j' hj'
    refine ⟨fun e q => ?_, ring_add a2 hn, ?_⟩
    · cases q
      exact ⟨hk, hn, ex_eq_ok hn, Nat.zero_le _, Nat.zero_le _⟩
    · show (lMd (aE S j') ++ [n]).length ≤ T + 1
      rw [List.length_append]; simp; exact a3
  · show (∀ e, lEx (fU (aE S) j _ j') = some e → _) ∧ riOK (lMd (fU (aE S) j _ j')) (fU (xLn X) j _ j') (fU (xOl X) j _ j') ∧ (lMd (fU (aE S) j _ j')).length ≤ _
    rw [fU_n e, fU_n e, fU_n e]
    exact h9.2.2.2.2.1 j' hj'
def tld (v : Int32) : Bool := decide (-9999 ≤ v.toInt ∧ v.toInt ≤ 9999)
abbrev s1Of (S : AT) (j : Nat) : AT := sLe S j (none, lWs (aE S j), lMd (aE S j))
def stV (S : AT) (j : Nat) (t9 : eqT) (o : Option exT) : Nat × Int32 × AT := match o with
  | none => (3, 0, S)
  | some e => if eq_same t9 e.2.2.1 then (if t9.1 = 1 ∧ t9.2.1 = 0 ∧ t9.2.2.1 = 0 then (0, 115, nsNote (s1Of S j) j e.1 (decide (e.2.2.2.1 = 0 ∧ e.2.2.2.2 = 0))) else (0, 102, sLe S j (some (e.1, e.2.1, t9, e.2.2.2.1, e.2.2.2.2), lWs (aE S j), lMd (aE S j))))
    else (0, 119, sLe S j (some (e.1, e.2.1, e.2.2.1, e.2.2.2.1 + 1, e.2.2.2.2), some (e.2.2.1, t9), lMd (aE S j)))
abbrev spStep (S : AT) (i a b c d : Int32) : Nat × Int32 × AT := spL S i (fun j => if tld a && (tld b && (tld c && tld d)) then stV S j (a, b, c, d) (lEx (aE S j)) else (2, 0, S)) (0, S)
theorem eq_same_ok {q t9 : eqT} {x : Int32} (h : eqOK q x) (hx : -4 ≤ x.toInt ∧ x.toInt ≤ 5) (ht : ∀ z ∈ [t9.1, t9.2.1, t9.2.2.1, t9.2.2.2], -9999 ≤ z.toInt ∧ z.toInt ≤ 9999) (hs : eq_same t9 q = true) : eqOK t9 x := by
  obtain ⟨hb, hne, he⟩ := h
  have qa := hb q.1 (by simp)
  have qb := hb q.2.1 (by simp)
  have qc := hb q.2.2.1 (by simp)
  have qd := hb q.2.2.2 (by simp)
  have ta := ht t9.1 (by simp)
  have tb := ht t9.2.1 (by simp)
  have tc := ht t9.2.2.1 (by simp)
  have td := ht t9.2.2.2 (by simp)
  have e1 : (q.1 - q.2.2.1).toInt64.toInt = q.1.toInt - q.2.2.1.toInt := by rw [Int32.toInt_toInt64]; exact fb_subI (by omega) (by omega)
  have e2 : (q.2.2.2 - q.2.1).toInt64.toInt = q.2.2.2.toInt - q.2.1.toInt := by rw [Int32.toInt_toInt64]; exact fb_subI (by omega) (by omega)
  have e3 : (t9.1 - t9.2.2.1).toInt64.toInt = t9.1.toInt - t9.2.2.1.toInt := by rw [Int32.toInt_toInt64]; exact fb_subI (by omega) (by omega)
  have e4 : (t9.2.2.2 - t9.2.1).toInt64.toInt = t9.2.2.2.toInt - t9.2.1.toInt := by rw [Int32.toInt_toInt64]; exact fb_subI (by omega) (by omega)
  have hp0 : ¬ (q.1 - q.2.2.1).toInt64 = 0 := by
    intro w
    have := congrArg Int64.toInt w
    rw [e1, show (0 : Int64).toInt = 0 from rfl] at this
    omega
  unfold eq_same eq_fol at hs
  by_cases hm : (t9.1 - t9.2.2.1).toInt64 = 0
  · rw [if_pos (Or.inl hm), hm] at hs
    simp at hs
    exact absurd hs.1.symm hp0
  · rw [if_neg (fun w => w.elim hm hp0), decide_eq_true_eq] at hs
    have hm0 : t9.1.toInt - t9.2.2.1.toInt ≠ 0 := by
      intro w
      apply hm
      apply Int64.toInt_inj.mp
      rw [e3, w]; rfl
    have hi := congrArg Int64.toInt hs
    have bnd : ∀ u v : Int, -19998 ≤ u → u ≤ 19998 → -19998 ≤ v → v ≤ 19998 → -9223372036854775808 ≤ u * v ∧ u * v < 9223372036854775808 := by
      intro u v h1 h2 h3 h4
      have k1 : (u * v).natAbs ≤ 19998 * 19998 := by
        rw [Int.natAbs_mul]
        exact Nat.mul_le_mul (by omega) (by omega)
      omega
    rw [fb_mulL (by rw [e4, e1]; exact (bnd _ _ (by omega) (by omega) (by omega) (by omega)).1) (by rw [e4, e1]; exact (bnd _ _ (by omega) (by omega) (by omega) (by omega)).2), fb_mulL (by rw [e2, e3]; exact (bnd _ _ (by omega) (by omega) (by omega) (by omega)).1) (by rw [e2, e3]; exact (bnd _ _ (by omega) (by omega) (by omega) (by omega)).2), e1, e2, e3, e4, ← he] at hi
    refine ⟨ht, by omega, ?_⟩
    have hp : q.1.toInt - q.2.2.1.toInt ≠ 0 := by omega
    have h5 : (q.1.toInt - q.2.2.1.toInt) * ((t9.1.toInt - t9.2.2.1.toInt) * x.toInt) = (q.1.toInt - q.2.2.1.toInt) * (t9.2.2.2.toInt - t9.2.1.toInt) := by
      rw [Int.mul_comm (q.1.toInt - q.2.2.1.toInt) (t9.2.2.2.toInt - t9.2.1.toInt), hi, Int.mul_assoc, Int.mul_comm x.toInt]
    exact Int.eq_of_mul_eq_mul_left hp h5
