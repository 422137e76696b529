/-! THE CLASS: skills, exercises, steps, explanations -/
set_option maxHeartbeats 2000000 in
theorem cT_as {G : mq_G} {ad : AD} {S : AT} {X : CX} {S2 : AT} {Y : MX} {O : OX} (gu sl ga q : Nat) : cU (cU (cU (cT G ad S X S2 Y O) 4 (aN S) 0 (cSk gu sl ga 0)) 1 0 0 (cRf (G.2 6) 10 (rf_of (aN S + 1) (fun k => if k = aN S then q else ad 4 k 0)))) 0 0 0 (.inr (12, [.ref (ad 1 0 0), .ref (ad 2 0 0), .ref (ad 3 0 0), .int (nI (aN S + 1)), .int (nI (aL S)), .int (nI (aD S))])) = cT G (adU ad 4 (aN S) 0 q) (((aN S + 1, aL S, aD S), fU (aS S) (aN S) (gu, sl, ga, 0), aM S, aE S) : AT) X S2 Y O := by
  funext a j k
  exact (match a with
    | 0 => by
        by_cases h : j = 0 ∧ k = 0
        · obtain ⟨rfl, rfl⟩ := h; simp [aN, aL, aD, aS, aM, aE, sTop, sSk, sMa, sLe, xW, xLn, xOl, xB, xSo, xR, xK, sW, sRi, sXp, lEx, lWs, lMd, cU, cT, adU, fU, fU2]
        · simp [cU, cT, adU, h]
    | 1 => by
        by_cases h : j = 0 ∧ k = 0
        · obtain ⟨rfl, rfl⟩ := h; simp [aN, aL, aD, aS, aM, aE, sTop, sSk, sMa, sLe, xW, xLn, xOl, xB, xSo, xR, xK, sW, sRi, sXp, lEx, lWs, lMd, cU, cT, adU, fU, fU2]
        · simp [cU, cT, adU, h]
    | 2 => by first | rfl | (simp [aN, aL, aD, aS, aM, aE, sTop, sSk, sMa, sLe, xW, xLn, xOl, xB, xSo, xR, xK, sW, sRi, sXp, lEx, lWs, lMd, cU, cT, adU, fU, fU2]; done)
    | 3 => by first | rfl | (simp [aN, aL, aD, aS, aM, aE, sTop, sSk, sMa, sLe, xW, xLn, xOl, xB, xSo, xR, xK, sW, sRi, sXp, lEx, lWs, lMd, cU, cT, adU, fU, fU2]; done)
    | 4 => by
        by_cases h : j = S.1.1
        · subst h; by_cases h2 : k = 0 <;> simp [aN, aL, aD, aS, aM, aE, cU, cT, adU, fU, fU2, h2]
        · by_cases h3 : j < S.1.1
          · have h4 : j < S.1.1 + 1 := by omega
            simp [aN, aL, aD, aS, aM, aE, cU, cT, adU, fU, fU2, h, h3, h4]
          · have h4 : ¬ j < S.1.1 + 1 := by omega
            simp [aN, aL, aD, aS, aM, aE, cU, cT, adU, fU, fU2, h, h3, h4]
    | 5 => by first | rfl | (simp [aN, aL, aD, aS, aM, aE, sTop, sSk, sMa, sLe, xW, xLn, xOl, xB, xSo, xR, xK, sW, sRi, sXp, lEx, lWs, lMd, cU, cT, adU, fU, fU2]; done)
    | 6 => by first | rfl | (simp [aN, aL, aD, aS, aM, aE, sTop, sSk, sMa, sLe, xW, xLn, xOl, xB, xSo, xR, xK, sW, sRi, sXp, lEx, lWs, lMd, cU, cT, adU, fU, fU2]; done)
    | 7 => by first | rfl | (simp [aN, aL, aD, aS, aM, aE, sTop, sSk, sMa, sLe, xW, xLn, xOl, xB, xSo, xR, xK, sW, sRi, sXp, lEx, lWs, lMd, cU, cT, adU, fU, fU2]; done)
    | 8 => by first | rfl | (simp [aN, aL, aD, aS, aM, aE, sTop, sSk, sMa, sLe, xW, xLn, xOl, xB, xSo, xR, xK, sW, sRi, sXp, lEx, lWs, lMd, cU, cT, adU, fU, fU2]; done)
    | 9 => by first | rfl | (simp [aN, aL, aD, aS, aM, aE, sTop, sSk, sMa, sLe, xW, xLn, xOl, xB, xSo, xR, xK, sW, sRi, sXp, lEx, lWs, lMd, cU, cT, adU, fU, fU2]; done)
    | 10 => by first | rfl | (simp [aN, aL, aD, aS, aM, aE, sTop, sSk, sMa, sLe, xW, xLn, xOl, xB, xSo, xR, xK, sW, sRi, sXp, lEx, lWs, lMd, cU, cT, adU, fU, fU2]; done)
    | 11 => by first | rfl | (simp [aN, aL, aD, aS, aM, aE, sTop, sSk, sMa, sLe, xW, xLn, xOl, xB, xSo, xR, xK, sW, sRi, sXp, lEx, lWs, lMd, cU, cT, adU, fU, fU2]; done)
    | 12 => by first | rfl | (simp [aN, aL, aD, aS, aM, aE, sTop, sSk, sMa, sLe, xW, xLn, xOl, xB, xSo, xR, xK, sW, sRi, sXp, lEx, lWs, lMd, cU, cT, adU, fU, fU2]; done)
    | 13 => by first | rfl | (simp [aN, aL, aD, aS, aM, aE, sTop, sSk, sMa, sLe, xW, xLn, xOl, xB, xSo, xR, xK, sW, sRi, sXp, lEx, lWs, lMd, cU, cT, adU, fU, fU2]; done)
    | 14 => by first | rfl | (simp [aN, aL, aD, aS, aM, aE, sTop, sSk, sMa, sLe, xW, xLn, xOl, xB, xSo, xR, xK, sW, sRi, sXp, lEx, lWs, lMd, cU, cT, adU, fU, fU2]; done)
    | 15 => by first | rfl | (simp [aN, aL, aD, aS, aM, aE, sTop, sSk, sMa, sLe, xW, xLn, xOl, xB, xSo, xR, xK, sW, sRi, sXp, lEx, lWs, lMd, cU, cT, adU, fU, fU2]; done)
    | 16 => by first | rfl | (simp [aN, aL, aD, aS, aM, aE, sTop, sSk, sMa, sLe, xW, xLn, xOl, xB, xSo, xR, xK, sW, sRi, sXp, lEx, lWs, lMd, cU, cT, adU, fU, fU2]; done)
    | 17 => by first | rfl | (simp [aN, aL, aD, aS, aM, aE, sTop, sSk, sMa, sLe, xW, xLn, xOl, xB, xSo, xR, xK, sW, sRi, sXp, lEx, lWs, lMd, cU, cT, adU, fU, fU2]; done)
    | 18 => by first | rfl | (simp [aN, aL, aD, aS, aM, aE, sTop, sSk, sMa, sLe, xW, xLn, xOl, xB, xSo, xR, xK, sW, sRi, sXp, lEx, lWs, lMd, cU, cT, adU, fU, fU2]; done)
    | 19 => by first | rfl | (simp [aN, aL, aD, aS, aM, aE, sTop, sSk, sMa, sLe, xW, xLn, xOl, xB, xSo, xR, xK, sW, sRi, sXp, lEx, lWs, lMd, cU, cT, adU, fU, fU2]; done)
    | 20 => by first | rfl | (simp [aN, aL, aD, aS, aM, aE, sTop, sSk, sMa, sLe, xW, xLn, xOl, xB, xSo, xR, xK, sW, sRi, sXp, lEx, lWs, lMd, cU, cT, adU, fU, fU2]; done)
    | 21 => by first | rfl | (simp [aN, aL, aD, aS, aM, aE, sTop, sSk, sMa, sLe, xW, xLn, xOl, xB, xSo, xR, xK, sW, sRi, sXp, lEx, lWs, lMd, cU, cT, adU, fU, fU2]; done)
    | 22 => by first | rfl | (simp [aN, aL, aD, aS, aM, aE, sTop, sSk, sMa, sLe, xW, xLn, xOl, xB, xSo, xR, xK, sW, sRi, sXp, lEx, lWs, lMd, cU, cT, adU, fU, fU2]; done)
    | 23 => by first | rfl | (simp [aN, aL, aD, aS, aM, aE, sTop, sSk, sMa, sLe, xW, xLn, xOl, xB, xSo, xR, xK, sW, sRi, sXp, lEx, lWs, lMd, cU, cT, adU, fU, fU2]; done)
    | 24 => by first | rfl | (simp [aN, aL, aD, aS, aM, aE, sTop, sSk, sMa, sLe, xW, xLn, xOl, xB, xSo, xR, xK, sW, sRi, sXp, lEx, lWs, lMd, cU, cT, adU, fU, fU2]; done)
    | 25 => by first | rfl | (simp [aN, aL, aD, aS, aM, aE, sTop, sSk, sMa, sLe, xW, xLn, xOl, xB, xSo, xR, xK, sW, sRi, sXp, lEx, lWs, lMd, cU, cT, adU, fU, fU2]; done)
    | 26 => by first | rfl | (simp [aN, aL, aD, aS, aM, aE, sTop, sSk, sMa, sLe, xW, xLn, xOl, xB, xSo, xR, xK, sW, sRi, sXp, lEx, lWs, lMd, cU, cT, adU, fU, fU2]; done)
    | 27 => by first | rfl | (simp [aN, aL, aD, aS, aM, aE, sTop, sSk, sMa, sLe, xW, xLn, xOl, xB, xSo, xR, xK, sW, sRi, sXp, lEx, lWs, lMd, cU, cT, adU, fU, fU2]; done)
    | 28 => by first | rfl | (simp [aN, aL, aD, aS, aM, aE, sTop, sSk, sMa, sLe, xW, xLn, xOl, xB, xSo, xR, xK, sW, sRi, sXp, lEx, lWs, lMd, cU, cT, adU, fU, fU2]; done)
    | 29 => by first | rfl | (simp [aN, aL, aD, aS, aM, aE, sTop, sSk, sMa, sLe, xW, xLn, xOl, xB, xSo, xR, xK, sW, sRi, sXp, lEx, lWs, lMd, cU, cT, adU, fU, fU2]; done)
    | 30 => by first | rfl | (simp [aN, aL, aD, aS, aM, aE, sTop, sSk, sMa, sLe, xW, xLn, xOl, xB, xSo, xR, xK, sW, sRi, sXp, lEx, lWs, lMd, cU, cT, adU, fU, fU2]; done)
    | 31 => by first | rfl | (simp [aN, aL, aD, aS, aM, aE, sTop, sSk, sMa, sLe, xW, xLn, xOl, xB, xSo, xR, xK, sW, sRi, sXp, lEx, lWs, lMd, cU, cT, adU, fU, fU2]; done)
    | 32 => by first | rfl | (simp [aN, aL, aD, aS, aM, aE, sTop, sSk, sMa, sLe, xW, xLn, xOl, xB, xSo, xR, xK, sW, sRi, sXp, lEx, lWs, lMd, cU, cT, adU, fU, fU2]; done)
    | 33 => by first | rfl | (simp [aN, aL, aD, aS, aM, aE, sTop, sSk, sMa, sLe, xW, xLn, xOl, xB, xSo, xR, xK, sW, sRi, sXp, lEx, lWs, lMd, cU, cT, adU, fU, fU2]; done)
    | 34 => by first | rfl | (simp [aN, aL, aD, aS, aM, aE, sTop, sSk, sMa, sLe, xW, xLn, xOl, xB, xSo, xR, xK, sW, sRi, sXp, lEx, lWs, lMd, cU, cT, adU, fU, fU2]; done)
    | 35 => by first | rfl | (simp [aN, aL, aD, aS, aM, aE, sTop, sSk, sMa, sLe, xW, xLn, xOl, xB, xSo, xR, xK, sW, sRi, sXp, lEx, lWs, lMd, cU, cT, adU, fU, fU2]; done)
    | 36 => by first | rfl | (simp [aN, aL, aD, aS, aM, aE, sTop, sSk, sMa, sLe, xW, xLn, xOl, xB, xSo, xR, xK, sW, sRi, sXp, lEx, lWs, lMd, cU, cT, adU, fU, fU2]; done)
    | 37 => by first | rfl | (simp [aN, aL, aD, aS, aM, aE, sTop, sSk, sMa, sLe, xW, xLn, xOl, xB, xSo, xR, xK, sW, sRi, sXp, lEx, lWs, lMd, cU, cT, adU, fU, fU2]; done)
    | 38 => by first | rfl | (simp [aN, aL, aD, aS, aM, aE, sTop, sSk, sMa, sLe, xW, xLn, xOl, xB, xSo, xR, xK, sW, sRi, sXp, lEx, lWs, lMd, cU, cT, adU, fU, fU2]; done)
    | 39 => by first | rfl | (simp [aN, aL, aD, aS, aM, aE, sTop, sSk, sMa, sLe, xW, xLn, xOl, xB, xSo, xR, xK, sW, sRi, sXp, lEx, lWs, lMd, cU, cT, adU, fU, fU2]; done)
    | n + 40 => by first | rfl | simp [cU, cT])

theorem WR_as {G : mq_G} {f g : mq_F} {ad : AD} {S : AT} {X : CX} {S2 : AT} {Y : MX} {O : OX} {f1 f2 f3 : mq_F} {q : Nat} {z : va_E} (hR : WR G f ad S X S2 Y O) (gu sl ga : Nat) (hq : f q = none) (h1 : f1 = mq_up f q z) (h2 : f2 = mq_up f1 q (cSk gu sl ga 0)) (h3 : f3 = mq_up f2 (ad 1 0 0) (cRf (G.2 6) 10 (rf_of (aN S + 1) (fun k => if k = aN S then q else ad 4 k 0)))) (hg : g = mq_up f3 (ad 0 0 0) (.inr (12, [.ref (ad 1 0 0), .ref (ad 2 0 0), .ref (ad 3 0 0), .int (nI (aN S + 1)), .int (nI (aL S)), .int (nI (aD S))]))) : WR G g (adU ad 4 (aN S) 0 q) (((aN S + 1, aL S, aD S), fU (aS S) (aN S) (gu, sl, ga, 0), aM S, aE S) : AT) X S2 Y O := by
  have r1 := RR.new (a := 4) (j := aN S) (k := 0) hR hq (g := f2) (e := cSk gu sl ga 0) (by rw [h2, h1, mq_uu])
  have r2 := RR.put r1 (a := 1) (j := 0) (k := 0) ((cU_n (by simp)).trans t1) rfl h3
  have r3 := RR.put r2 (a := 0) (j := 0) (k := 0) ((cU_n (by simp)).trans ((cU_n (by simp)).trans t0)) rfl hg
  rw [cT_as gu sl ga q] at r3; exact r3
abbrev nsSkill (S : AT) (gu sl ga : Nat) : AT := ((aN S + 1, aL S, aD S), fU (aS S) (aN S) (gu, sl, ga, 0), aM S, aE S)
def spSkill (S : AT) (a b c : Int32) : Nat × Int32 × AT := if vI a 501 && (vI b 501 && vI c 501) then (if aN S < 10 then (0, nI (aN S), nsSkill S a.toNatClampNeg b.toNatClampNeg c.toNatClampNeg) else (2, 0, S)) else (1, 0, S)
theorem vI_ex {v : Int32} : vI v 501 = true ↔ ∃ n, n ≤ 500 ∧ v = nI n := by
  constructor
  · intro h
    obtain ⟨n, hn, rfl⟩ := vp_in_of (vI_iff.mp h) (by decide)
    exact ⟨n, by omega, rfl⟩
  · rintro ⟨n, hn, rfl⟩
    exact vI_nI (by omega) (by decide)
theorem spSkill_n {S : AT} {a b c : Int32} (h : ¬ ((∃ n, n ≤ 500 ∧ a = nI n) ∧ (∃ n, n ≤ 500 ∧ b = nI n) ∧ ∃ n, n ≤ 500 ∧ c = nI n)) : spSkill S a b c = (1, 0, S) := by
  unfold spSkill
  rw [if_neg]
  intro q
  rw [Bool.and_eq_true, Bool.and_eq_true] at q
  exact h ⟨vI_ex.mp q.1, vI_ex.mp q.2.1, vI_ex.mp q.2.2⟩
theorem spSkill_y {S : AT} {a b c : Nat} (ha : a ≤ 500) (hb : b ≤ 500) (hc : c ≤ 500) : spSkill S (nI a) (nI b) (nI c) = if aN S < 10 then (0, nI (aN S), nsSkill S a b c) else (2, 0, S) := by
  unfold spSkill
  rw [vI_nI (show a < 501 by omega) (by decide), vI_nI (show b < 501 by omega) (by decide), vI_nI (show c < 501 by omega) (by decide), nI_clamp (by omega), nI_clamp (by omega), nI_clamp (by omega)]; rfl
theorem ok_skill {S : AT} {X : CX} {T gu sl ga : Nat} (h : cOK S X T) (hT : T < 512) (hn : aN S < 10) (h1 : gu ≤ 500) (h2 : sl ≤ 500) (h3 : ga ≤ 500) : cOK (nsSkill S gu sl ga) X (T + 1) := by
  have h9 := ok_mono h hT
  refine ⟨⟨by show aN S + 1 ≤ 10; omega, h9.1.2⟩, fun k hk => ?_, fun j k hj hk => ?_, fun j hj d hd => ?_, fun j hj => ?_, h9.2.2.2.2.2⟩
  · have hk : k < aN S + 1 := hk
    show skOK (aN S + 1) (fU (aS S) (aN S) (gu, sl, ga, 0) k)
    by_cases e : k = aN S
    · rw [e, fU_s]; exact ⟨h1, h2, h3, Nat.two_pow_pos _⟩
    · rw [fU_n e]
      obtain ⟨a1, a2, a3, a4⟩ := h.2.1 k (by omega)
      exact ⟨a1, a2, a3, Nat.lt_of_lt_of_le a4 (Nat.pow_le_pow_right (by decide) (by omega))⟩
  · obtain ⟨m1, m2, m3, m4, m5, m6, m7, m8⟩ := h9.2.2.1 j k hj hk
    show maOK (fU (aS S) (aN S) (gu, sl, ga, 0) k) (aN S + 1) k (T + 1) (aM S j k) (xW X j k)
    refine ⟨m1, m2, m3, m4, m5, m6, fun q => ?_, fun q => m8 (by omega)⟩
    by_cases e : k = aN S
    · obtain ⟨b1, b2, b3⟩ := m8 (by omega)
      rw [b1, b2]; rfl
    · rw [fU_n e]; exact m7 (by omega)
  · show cntB (fun k => decide (mDu (aM S j k) = d)) (aN S + 1) ≤ 2
    rw [cntB_f]
    · exact h.2.2.2.1 j hj d hd
    · have := ((h.2.2.1 j (aN S) hj hn).2.2.2.2.2.2.2 (Nat.le_refl _)).2.2
      rw [this]; exact decide_eq_false (fun q => hd q.symm)
  · obtain ⟨a1, a2, a3⟩ := h9.2.2.2.2.1 j hj
    exact ⟨fun e he => by obtain ⟨x1, x2⟩ := a1 e he; exact ⟨by show e.1 < aN S + 1; omega, x2⟩, a2, a3⟩
/-- the explainer's cells -/
theorem WR_xpD {G : mq_G} {f g : mq_F} {ad : AD} {S : AT} {X : CX} {S2 : AT} {Y : MX} {O : OX} (hR : WR G f ad S X S2 Y O) : xpD (fun k => ad 17 k 0) (fun k => ad 18 k 0) := fun a b ha hb => ⟨fun w => (hR.2 _ _ _ _ _ _ _ _ (t17 (j := a) ha) (t17 (j := b) hb) w).elim (fun q => absurd q.1 (by decide)) (fun q => q.2.1), fun w => (hR.2 _ _ _ _ _ _ _ _ (t18 (j := a) ha) (t18 (j := b) hb) w).elim (fun q => absurd q.1 (by decide)) (fun q => q.2.1), RR.ne hR (t17 (j := a) ha) (t18 (j := b) hb) rfl (by simp)⟩
theorem WR_xpC {G : mq_G} {f g : mq_F} {ad : AD} {S : AT} {X : CX} {S2 : AT} {Y : MX} {O : OX} (hR : WR G f ad S X S2 Y O) : xpC G f (ad 3 0 0) (ad 15 0 0) (ad 16 0 0) (xSo X) (fun k => ad 17 k 0) (fun k => ad 18 k 0) (xB X) := ⟨hR.1 _ _ _ _ t3, hR.1 _ _ _ _ t15, hR.1 _ _ _ _ t16, fun k hk => ⟨⟨xR X k, hR.1 _ _ _ _ (t17 hk)⟩, ⟨xK X k, hR.1 _ _ _ _ (t18 hk)⟩⟩⟩

theorem cT_xp {G : mq_G} {ad : AD} {S : AT} {X : CX} {S2 : AT} {Y : MX} {O : OX} {b : Nat} {so : Option Nat} {r k9 : Nat → eqT} (a j k : Nat) (h3 : a ≠ 3) (h7 : a ≠ 17) (h8 : a ≠ 18) : cT G ad S (sXp X b so r k9) S2 Y O a j k = cT G ad S X S2 Y O a j k :=
  match a, h3, h7, h8 with
  | 0, h3, h7, h8 => rfl
  | 1, h3, h7, h8 => rfl
  | 2, h3, h7, h8 => rfl
  | 3, h3, h7, h8 => absurd rfl h3
  | 4, h3, h7, h8 => rfl
  | 5, h3, h7, h8 => rfl
  | 6, h3, h7, h8 => rfl
  | 7, h3, h7, h8 => rfl
  | 8, h3, h7, h8 => rfl
  | 9, h3, h7, h8 => rfl
  | 10, h3, h7, h8 => rfl
  | 11, h3, h7, h8 => rfl
  | 12, h3, h7, h8 => rfl
  | 13, h3, h7, h8 => rfl
  | 14, h3, h7, h8 => rfl
  | 15, h3, h7, h8 => rfl
  | 16, h3, h7, h8 => rfl
  | 17, h3, h7, h8 => absurd rfl h7
  | 18, h3, h7, h8 => absurd rfl h8
  | 19, h3, h7, h8 => rfl
  | 20, h3, h7, h8 => rfl
  | 21, h3, h7, h8 => rfl
  | 22, h3, h7, h8 => rfl
  | 23, h3, h7, h8 => rfl
  | 24, h3, h7, h8 => rfl
  | 25, h3, h7, h8 => rfl
  | 26, h3, h7, h8 => rfl
  | 27, h3, h7, h8 => rfl
  | 28, h3, h7, h8 => rfl
  | 29, h3, h7, h8 => rfl
  | 30, h3, h7, h8 => rfl
  | 31, h3, h7, h8 => rfl
  | 32, h3, h7, h8 => rfl
  | 33, h3, h7, h8 => rfl
  | 34, h3, h7, h8 => rfl
  | 35, h3, h7, h8 => rfl
  | 36, h3, h7, h8 => rfl
  | 37, h3, h7, h8 => rfl
  | 38, h3, h7, h8 => rfl
  | 39, h3, h7, h8 => rfl
  | n + 40, _, _, _ => rfl
theorem WR_xp {G : mq_G} {f g : mq_F} {ad : AD} {S : AT} {X : CX} {S2 : AT} {Y : MX} {O : OX} {so : Option Nat} {b : Nat} (hR : WR G f ad S X S2 Y O) (hX : xpC G g (ad 3 0 0) (ad 15 0 0) (ad 16 0 0) so (fun k => ad 17 k 0) (fun k => ad 18 k 0) b) (hF : xpF f g (ad 3 0 0) (fun k => ad 17 k 0) (fun k => ad 18 k 0) 0) : ∃ r k9, WR G g ad S (sXp X b so r k9) S2 Y O := by
  obtain ⟨x1, x2, x3, x4⟩ := hX
  obtain ⟨⟨r0, a0⟩, ⟨k0, b0⟩⟩ := x4 0 (by decide)
  obtain ⟨⟨r1, a1⟩, ⟨k1, b1⟩⟩ := x4 1 (by decide)
  obtain ⟨⟨r2, a2⟩, ⟨k2, b2⟩⟩ := x4 2 (by decide)
  refine ⟨fun k => if k = 0 then r0 else if k = 1 then r1 else r2, fun k => if k = 0 then k0 else if k = 1 then k1 else k2, ?_⟩
  have lv : ∀ a j k e, cT G ad S (sXp X b so (fun k => if k = 0 then r0 else if k = 1 then r1 else r2) (fun k => if k = 0 then k0 else if k = 1 then k1 else k2)) S2 Y O a j k = some e → ∃ e0, cT G ad S X S2 Y O a j k = some e0 := by
    intro a j k e h
    by_cases h3 : a = 3
    · subst h3
      have hc : j = 0 ∧ k = 0 := by
        by_cases q : j = 0 ∧ k = 0
        · exact q
        · rw [show cT G ad S (sXp X b so _ _) S2 Y O 3 j k = none from if_neg q] at h; cases h
      obtain ⟨rfl, rfl⟩ := hc
      exact ⟨_, t3⟩
    · by_cases h7 : a = 17
      · subst h7
        have hc : j < 3 ∧ k = 0 := by
          by_cases q : j < 3 ∧ k = 0
          · exact q
          · rw [show cT G ad S (sXp X b so _ _) S2 Y O 17 j k = none from if_neg q] at h; cases h
        obtain ⟨hj, rfl⟩ := hc
        exact ⟨_, t17 hj⟩
      · by_cases h8 : a = 18
        · subst h8
          have hc : j < 3 ∧ k = 0 := by
            by_cases q : j < 3 ∧ k = 0
            · exact q
            · rw [show cT G ad S (sXp X b so _ _) S2 Y O 18 j k = none from if_neg q] at h; cases h
          obtain ⟨hj, rfl⟩ := hc
          exact ⟨_, t18 hj⟩
        · rw [cT_xp a j k h3 h7 h8] at h; exact ⟨e, h⟩
  refine ⟨fun a j k e h => ?_, fun a j k a' j' k' e e' h h' hw => ?_⟩
  · by_cases h3 : a = 3
    · subst h3
      by_cases q : j = 0 ∧ k = 0
      · obtain ⟨rfl, rfl⟩ := q
        rw [x1]; exact h
      · rw [show cT G ad S (sXp X b so _ _) S2 Y O 3 j k = none from if_neg q] at h; cases h
    · by_cases h7 : a = 17
      · subst h7
        by_cases q : j < 3 ∧ k = 0
        · obtain ⟨hj, rfl⟩ := q
          rw [t17 hj] at h
          rcases (show j = 0 ∨ j = 1 ∨ j = 2 by omega) with rfl | rfl | rfl
          · exact a0.trans h
          · exact a1.trans h
          · exact a2.trans h
        · rw [show cT G ad S (sXp X b so _ _) S2 Y O 17 j k = none from if_neg q] at h; cases h
      · by_cases h8 : a = 18
        · subst h8
          by_cases q : j < 3 ∧ k = 0
          · obtain ⟨hj, rfl⟩ := q
            rw [t18 hj] at h
            rcases (show j = 0 ∨ j = 1 ∨ j = 2 by omega) with rfl | rfl | rfl
            · exact b0.trans h
            · exact b1.trans h
            · exact b2.trans h
          · rw [show cT G ad S (sXp X b so _ _) S2 Y O 18 j k = none from if_neg q] at h; cases h
        · rw [cT_xp a j k h3 h7 h8] at h
          rw [hF _ (RR.ne hR h t3 rfl (fun q => h3 q.1)) (fun i _ hi => ⟨RR.ne hR h (t17 hi) rfl (fun q => h7 q.1), RR.ne hR h (t18 hi) rfl (fun q => h8 q.1)⟩)]
          exact hR.1 _ _ _ _ h
  · obtain ⟨y1, z1⟩ := lv _ _ _ _ h
    obtain ⟨y2, z2⟩ := lv _ _ _ _ h'
    exact hR.2 _ _ _ _ _ _ _ _ z1 z2 hw
def exV (o : Option (eqT × eqT)) : Nat × Int32 := match o with
  | none => (2, 0)
  | some w => if sk w.2 3 w.1 0 0 = 0 then (3, 0) else (0, nI (sk w.2 3 w.1 0 0 - 1))
abbrev spExpl (S : AT) (i : Int32) : Nat × Int32 := spL S i (fun j => exV (lWs (aE S j))) 0

set_option maxHeartbeats 4000000 in
set_option maxRecDepth 100000 in
theorem c_X7_addSkill (l : Launch) (hfl : l.stackTraces = false) (G : mq_G) (A : Nat → Prop) (f : mq_F) (ad : AD) (S : AT) (X : CX) (S2 : AT) (Y : MX) (O : OX) (T : Nat) (ua ub uc : Int32) : vx_Met l yX7_addSkill wsX7_addSkill ({ frames := 8, cells := 4, slots := 24, locals := 140 } : Room) (mq_Pc G A f (WR G f ad S X S2 Y O ∧ cOK S X T ∧ T < 512) [.ref (ad 0 0 0), .int ua, .int ub, .int uc]) (mq_Qi G A (fun r g => ∃ S9 X9 ad9, spSkill S ua ub uc = (0, r, S9) ∧ WR G g ad9 S9 X9 S2 Y O ∧ cOK S9 X9 (T + 1) ∧ adK ad ad9)) (mq_X G A (fun E g => f = g ∧ ((spSkill S ua ub uc).1 = 1 ∧ E = "java/lang/IllegalArgumentException" ∨ (spSkill S ua ub uc).1 = 2 ∧ E = "java/lang/IllegalStateException"))) 4 24 A := by
  refine vx_ofW (cc := cX7_addSkill) (maxL := 4) (ret := (some .int)) (by decide) rfl ?_
  intro p e s m args below meth c s₁ B hml ht9 hv
  obtain ⟨rfl, ⟨hK, hZ, hM, hA⟩, hp⟩ := hv
  have hx := B.exec
  have hb := B.bytes
  have hr := B.returns
  have hts := atoms_spec (ws := wsX7_addSkill) B.pre
  have hown : s.vm.findClass RX7 = some m.cls := findClass_of_methodNamed B.named
  have hlocks := B.notSynchronized
  have hS : va_S A s.heap s.heap [] := va_S.rf
  have hl := lv_entry ([.ref (ad 0 0 0), .int ua, .int ub, .int uc]) (n := 4) (Nat.le_of_ble_eq_true rfl)
  rw [lg_entry_eq]
  generalize (lg_sl ([.ref (ad 0 0 0), .int ua, .int ub, .int uc]) ++ List.replicate (4 - (lg_sl ([.ref (ad 0 0 0), .int ua, .int ub, .int uc])).length) Slot.unset).toArray = ls at hl ⊢
  have hl : lv_has ls 4 [(0, .ref (ad 0 0 0)), (1, .int ua), (2, .int ub), (3, .int uc)] := hl
  have w0 := hts (.fieldLink RX7 32 "Tutorlight" "skillCount" "I") (List.mem_of_getElem? (i := 3) rfl)
  have w1 := hts (.fieldLink RX7 11 "Tutorlight" "skills" "[LTutorlight$Skill;") (List.mem_of_getElem? (i := 4) rfl)
  have w2 := hts (.classLink RX7 9 RX5) (List.mem_of_getElem? (i := 5) rfl)
  have w3 := hts (.instantiable RX5 4) (List.mem_of_getElem? (i := 6) rfl)
  have w4 := hts (.initialized RX5) (List.mem_of_getElem? (i := 7) rfl)
  have w5 := hts (.methodLink RX7 43 yX5_init) (List.mem_of_getElem? (i := 14) rfl)
  have w6 := hts (.instanceMethod yX5_init) (List.mem_of_getElem? (i := 15) rfl)
  have w7 := hts (.classLink RX7 36 "java/lang/IllegalStateException") (List.mem_of_getElem? (i := 1) rfl)
  have w8 := hts (.initialized "java/lang/IllegalStateException") (List.mem_of_getElem? (i := 2) rfl)
  have nX7 : ∀ w ∈ wsX70, w ∈ wsX7_addSkill := fun _ h => List.mem_cons_of_mem _ (List.mem_append_left _ (List.mem_append_left _ (List.mem_append_left _ (List.mem_append_right _ h))))
  have nX5 : ∀ w ∈ wsX50, w ∈ wsX7_addSkill := fun _ h => List.mem_cons_of_mem _ (List.mem_append_left _ (List.mem_append_left _ (List.mem_append_right _ h)))
  obtain ⟨hR, hO, hT5⟩ := hp
  obtain ⟨⟨hn, hl4, hd2, hT⟩, hsk, hma, hdc, hle, hxb⟩ := id hO
  have y0_117 := hR.1 _ _ _ _ (t0)
  have y1_118 := hR.1 _ _ _ _ (t1)
  refine lv_iload_n hx hb dX7_addSkill_0 rfl (lv_at hl 1 rfl) ?_
  refine mq_xcallv (vx_runS (As := [.int ua]) (rest := []) ⟨hx, hb, hml, hown, hts⟩ (c_X7_checkThousandths l hfl G A f ua) (va_cwS 1 hts gX7_addSkill_X7_checkThousandths rfl rfl rfl (by decide +kernel) ⟨Nat.le_of_ble_eq_true rfl, Nat.le_of_ble_eq_true rfl⟩) (mq_preS hK hZ hS hA hM (trivial) _) rfl rfl hl.1 rfl (lv_room (Nat.le_of_ble_eq_true rfl)) dX7_addSkill_1 ⟨Nat.le_of_ble_eq_true rfl, Nat.le_of_ble_eq_true rfl⟩) hS (fun E ce q9 g1 H locs p1 hM hS hce hcv hcl => ?_) (fun g1 H locs p1 hM hS => ?_)
  · obtain ⟨rfl, rfl, q9⟩ := p1
    exact mq_out (List.eq_nil_iff_forall_not_mem.mpr fun x hx => ht9 x hx) hlocks hce hcv hcl hM hS (⟨rfl, Or.inl (⟨congrArg Prod.fst (spSkill_n (fun q => q9 q.1)), rfl⟩)⟩) (Nat.le_of_ble_eq_true rfl) (Nat.le_of_ble_eq_true rfl)
  refine W.widen (k := 1) (n := 6) (Nat.le_of_ble_eq_true rfl) (Nat.le_of_ble_eq_true rfl) ?_
  obtain ⟨rfl, gu, hgu, rfl⟩ := p1
  refine lv_iload_n hx hb dX7_addSkill_4 rfl (lv_at hl 2 rfl) ?_
  refine mq_xcallv (vx_runS (As := [.int ub]) (rest := []) ⟨hx, hb, hml, hown, hts⟩ (c_X7_checkThousandths l hfl G A f ub) (va_cwS 1 hts gX7_addSkill_X7_checkThousandths rfl rfl rfl (by decide +kernel) ⟨Nat.le_of_ble_eq_true rfl, Nat.le_of_ble_eq_true rfl⟩) (mq_preS hK hZ hS hA hM (trivial) _) rfl rfl hl.1 rfl (lv_room (Nat.le_of_ble_eq_true rfl)) dX7_addSkill_5 ⟨Nat.le_of_ble_eq_true rfl, Nat.le_of_ble_eq_true rfl⟩) hS (fun E ce q9 g5 H locs p5 hM hS hce hcv hcl => ?_) (fun g5 H locs p5 hM hS => ?_)
  · obtain ⟨rfl, rfl, q9⟩ := p5
    exact mq_out (List.eq_nil_iff_forall_not_mem.mpr fun x hx => ht9 x hx) hlocks hce hcv hcl hM hS (⟨rfl, Or.inl (⟨congrArg Prod.fst (spSkill_n (fun q => q9 q.2.1)), rfl⟩)⟩) (Nat.le_of_ble_eq_true rfl) (Nat.le_of_ble_eq_true rfl)
  refine W.widen (k := 2) (n := 12) (Nat.le_of_ble_eq_true rfl) (Nat.le_of_ble_eq_true rfl) ?_
  obtain ⟨rfl, sl, hsl, rfl⟩ := p5
  refine lv_iload_n hx hb dX7_addSkill_8 rfl (lv_at hl 3 rfl) ?_
  refine mq_xcallv (vx_runS (As := [.int uc]) (rest := []) ⟨hx, hb, hml, hown, hts⟩ (c_X7_checkThousandths l hfl G A f uc) (va_cwS 1 hts gX7_addSkill_X7_checkThousandths rfl rfl rfl (by decide +kernel) ⟨Nat.le_of_ble_eq_true rfl, Nat.le_of_ble_eq_true rfl⟩) (mq_preS hK hZ hS hA hM (trivial) _) rfl rfl hl.1 rfl (lv_room (Nat.le_of_ble_eq_true rfl)) dX7_addSkill_9 ⟨Nat.le_of_ble_eq_true rfl, Nat.le_of_ble_eq_true rfl⟩) hS (fun E ce q9 g9 H locs p9 hM hS hce hcv hcl => ?_) (fun g9 H locs p9 hM hS => ?_)
  · obtain ⟨rfl, rfl, q9⟩ := p9
    exact mq_out (List.eq_nil_iff_forall_not_mem.mpr fun x hx => ht9 x hx) hlocks hce hcv hcl hM hS (⟨rfl, Or.inl (⟨congrArg Prod.fst (spSkill_n (fun q => q9 q.2.2)), rfl⟩)⟩) (Nat.le_of_ble_eq_true rfl) (Nat.le_of_ble_eq_true rfl)
  refine W.widen (k := 3) (n := 18) (Nat.le_of_ble_eq_true rfl) (Nat.le_of_ble_eq_true rfl) ?_
  obtain ⟨rfl, ga, hga, rfl⟩ := p9
  refine lv_aload_n hx hb dX7_addSkill_12 rfl (lv_at hl 0 rfl) ?_
  refine mq_get (ci := 12) (v := .int (nI (aN S))) (C := RX7) (T := TX7) (N := 6) hx hb hts nX7 hown hK hM y0_117 rfl 3 (by decide) w0 (fun _ h9 => h9) rfl dX7_addSkill_13 ?_
  refine lv_aload_n hx hb dX7_addSkill_16 rfl (lv_at hl 0 rfl) ?_
  refine mq_get (ci := 12) (v := .ref (ad 1 0 0)) (C := RX7) (T := TX7) (N := 6) hx hb hts nX7 hown hK hM y0_117 rfl 0 (by decide) w1 (fun _ h9 => h9) rfl dX7_addSkill_17 ?_
  refine mq_alen (t0 := 6) (v := 10) hx hb hK hM rfl y1_118 rfl dX7_addSkill_20 ?_
  refine lv_icmp_lt (tgt := 34) hx hb dX7_addSkill_21 (by decide) (fun c_21 => ?_) (fun c_21 => ?_)
  · replace c_21 : nI (aN S) < nI 10 := c_21
    rw [nI_ltI (by omega) (by omega)] at c_21
    refine lv_aload_n hx hb dX7_addSkill_34 rfl (lv_at hl 0 rfl) ?_
    refine mq_get (ci := 12) (v := .ref (ad 1 0 0)) (C := RX7) (T := TX7) (N := 6) hx hb hts nX7 hown hK hM y0_117 rfl 0 (by decide) w1 (fun _ h9 => h9) rfl dX7_addSkill_35 ?_
    refine lv_aload_n hx hb dX7_addSkill_38 rfl (lv_at hl 0 rfl) ?_
    refine mq_get (ci := 12) (v := .int (nI (aN S))) (C := RX7) (T := TX7) (N := 6) hx hb hts nX7 hown hK hM y0_117 rfl 3 (by decide) w0 (fun _ h9 => h9) rfl dX7_addSkill_39 ?_
    refine mq_new (ci := 10) (fs := [.int 0, .int 0, .int 0, .int 0]) (C := RX5) (T := TX5) (N := 4) hx hb hts nX5 tyX5 tyX5_ok hown w2 w3 w4 hK hM hS hA rfl (fun j hj => by rcases (show j = 0 ∨ j = 1 ∨ j = 2 ∨ j = 3 by omega) with rfl | rfl | rfl | rfl <;> rfl) (Nat.le_of_ble_eq_true rfl) (Nat.le_of_ble_eq_true rfl) dX7_addSkill_42 (fun q42 f_1 H hq42 e_2 hM hS => ?_)
    refine W.widen (k := 4) (n := 22) (Nat.le_of_ble_eq_true rfl) (Nat.le_of_ble_eq_true rfl) ?_
    have h_3 : f_1 (ad 0 0 0) = some (.inr (12, [.ref (ad 1 0 0), .ref (ad 2 0 0), .ref (ad 3 0 0), .int (nI (aN S)), .int (nI (aL S)), .int (nI (aD S))])) := mq_n e_2 y0_117 (mq_neN y0_117 hq42)
    have h_4 : f_1 (ad 1 0 0) = some (.inl (G.2 6, 10, .inr (.inr (.inr (.inr (rf_of (aN S) (fun i => ad 4 i 0))))))) := mq_n e_2 y1_118 (mq_neN y1_118 hq42)
    have h_5 : f_1 q42 = some (.inr (10, [.int 0, .int 0, .int 0, .int 0])) := mq_s e_2
    refine lv_dup hx hb dX7_addSkill_45 rfl ?_
    refine lv_iload_n hx hb dX7_addSkill_46 rfl (lv_at hl 1 rfl) ?_
    refine lv_iload_n hx hb dX7_addSkill_47 rfl (lv_at hl 2 rfl) ?_
    refine lv_iload_n hx hb dX7_addSkill_48 rfl (lv_at hl 3 rfl) ?_
    refine mq_callv (va_runI (As := [.int (nI gu), .int (nI sl), .int (nI ga)]) (rest := [.ref q42, .int (nI (aN S)), .ref (ad 1 0 0)]) ⟨hx, hb, hml, hown, hts⟩ (c_X5_init l G A f_1 q42 gu sl ga) (cwI 3 hts gX7_addSkill_X5_init rfl rfl rfl w4 w5 w6 rfl (by decide +kernel) ⟨Nat.le_of_ble_eq_true rfl, Nat.le_of_ble_eq_true rfl⟩) (mq_preS hK hZ hS hA hM (h_5) _) rfl rfl hl.1 rfl (lv_room (Nat.le_of_ble_eq_true rfl)) dX7_addSkill_49 ⟨Nat.le_of_ble_eq_true rfl, Nat.le_of_ble_eq_true rfl⟩) hS (fun g49 H locs p49 hM hS => ?_)
    refine W.widen (k := 4) (n := 22) (Nat.le_of_ble_eq_true rfl) (Nat.le_of_ble_eq_true rfl) ?_
    have h_6 : g49 (ad 0 0 0) = some (.inr (12, [.ref (ad 1 0 0), .ref (ad 2 0 0), .ref (ad 3 0 0), .int (nI (aN S)), .int (nI (aL S)), .int (nI (aD S))])) := mq_n p49 h_3 (mq_neN y0_117 hq42)
    have h_7 : g49 (ad 1 0 0) = some (.inl (G.2 6, 10, .inr (.inr (.inr (.inr (rf_of (aN S) (fun i => ad 4 i 0))))))) := mq_n p49 h_4 (mq_neN y1_118 hq42)
    have h_8 : g49 q42 = some (.inr (10, [.int (nI gu), .int (nI sl), .int (nI ga), .int (nI 0)])) := mq_s p49
    refine mq_aast (t0 := 6) (ci := 10) hx hb hK hM hS rfl h_7 h_8 rfl (vp_in_nI (by omega) (by omega)) dX7_addSkill_52 (fun f_9 H locs e_10 hM hS => ?_)
    rw [show (nI (aN S) : Int32).toNatClampNeg = aN S from nI_clamp (by omega)] at e_10
    rw [show (va_up (rf_of (aN S) (fun i => ad 4 i 0)) (aN S) (some q42)) = (rf_of (aN S + 1) (fun k => if k = aN S then q42 else ad 4 k 0)) from rf_S] at e_10
    have h_11 : f_9 (ad 0 0 0) = some (.inr (12, [.ref (ad 1 0 0), .ref (ad 2 0 0), .ref (ad 3 0 0), .int (nI (aN S)), .int (nI (aL S)), .int (nI (aD S))])) := mq_n e_10 h_6 (mq_neA h_6 h_7)
    have h_12 : f_9 q42 = some (.inr (10, [.int (nI gu), .int (nI sl), .int (nI ga), .int (nI 0)])) := mq_n e_10 h_8 (Ne.symm (mq_neN y1_118 hq42))
    have h_13 : f_9 (ad 1 0 0) = some (.inl (G.2 6, 10, .inr (.inr (.inr (.inr (rf_of (aN S + 1) (fun k => if k = aN S then q42 else ad 4 k 0))))))) := mq_s e_10
    refine lv_aload_n hx hb dX7_addSkill_53 rfl (lv_at hl 0 rfl) ?_
    refine lv_dup hx hb dX7_addSkill_54 rfl ?_
    refine mq_get (ci := 12) (v := .int (nI (aN S))) (C := RX7) (T := TX7) (N := 6) hx hb hts nX7 hown hK hM h_11 rfl 3 (by decide) w0 (fun _ h9 => h9) rfl dX7_addSkill_55 ?_
    refine lv_iconst (v := 1) hx hb dX7_addSkill_58 (by decide) ?_
    refine lv_iadd hx hb dX7_addSkill_59 ?_
    rw [show (nI (aN S)) + 1 = nI ((aN S) + 1) from nI_add _ _]
    refine mq_put (ci := 12) (v := .int (nI ((aN S) + 1))) (ty := .int) (C := RX7) (T := TX7) (N := 6) (fs' := [.ref (ad 1 0 0), .ref (ad 2 0 0), .ref (ad 3 0 0), .int (nI ((aN S) + 1)), .int (nI (aL S)), .int (nI (aD S))]) hx hb hts nX7 tyX7 tyX7_ok nmX7 hown hK hM hS h_11 rfl 3 (by decide) w0 (fun _ h9 => h9) rfl (by decide +kernel) rfl rfl (Nat.le_of_ble_eq_true rfl) dX7_addSkill_60 rfl (fun f_14 H locs e_15 hM hS => ?_)
    have h_16 : f_14 q42 = some (.inr (10, [.int (nI gu), .int (nI sl), .int (nI ga), .int (nI 0)])) := mq_n e_15 h_12 (Ne.symm (mq_neN y0_117 hq42))
    have h_17 : f_14 (ad 1 0 0) = some (.inl (G.2 6, 10, .inr (.inr (.inr (.inr (rf_of (aN S + 1) (fun k => if k = aN S then q42 else ad 4 k 0))))))) := mq_n e_15 h_13 (mq_neB h_13 h_11)
    have h_18 : f_14 (ad 0 0 0) = some (.inr (12, [.ref (ad 1 0 0), .ref (ad 2 0 0), .ref (ad 3 0 0), .int (nI ((aN S) + 1)), .int (nI (aL S)), .int (nI (aD S))])) := mq_s e_15
    refine lv_aload_n hx hb dX7_addSkill_63 rfl (lv_at hl 0 rfl) ?_
    refine mq_get (ci := 12) (v := .int (nI ((aN S) + 1))) (C := RX7) (T := TX7) (N := 6) hx hb hts nX7 hown hK hM h_18 rfl 3 (by decide) w0 (fun _ h9 => h9) rfl dX7_addSkill_64 ?_
    refine lv_iconst (v := 1) hx hb dX7_addSkill_67 (by decide) ?_
    refine lv_isub hx hb dX7_addSkill_68 ?_
    rw [show (nI ((aN S) + 1)) - 1 = nI (((aN S) + 1) - 1) from pk_sub (a := (aN S) + 1) (b := 1) (by omega)]
    refine vx_ret ?_
    refine W.widen (k := 4) (n := 24) (Nat.le_of_ble_eq_true rfl) (Nat.le_of_ble_eq_true rfl) ?_
    exact mq_iret (v := nI (((aN S) + 1) - 1)) hx hb hr hlocks hM hS (⟨_, X, _, (spSkill_y hgu hsl hga).trans (if_pos c_21), WR_as hR gu sl ga hq42 e_2 p49 e_10 e_15, ok_skill hO hT5 c_21 hgu hsl hga, ⟨rfl, rfl, rfl, rfl⟩⟩) dX7_addSkill_69
  · replace c_21 : ¬ nI (aN S) < nI 10 := c_21
    rw [nI_ltI (by omega) (by omega)] at c_21
    obtain ⟨sa, hsa⟩ := mq_str hZ (own := RX7) (k := 38) (tx := "no room for another skill") (by decide +kernel)
    refine vx_throwS (A := A) (own := RX7) (cls := "java/lang/IllegalStateException") (text := "no room for another skill") (names := ["java/lang/RuntimeException", "java/lang/Exception"]) (ik := 36) (is := 38) (ic := 40) hx hb hfl hown (by decide +kernel) (by decide +kernel) w7 w8 hsa (mq_hat hZ (fun w h => hts w (List.mem_cons_of_mem _ (List.mem_append_left _ (List.mem_append_right _ h)))) (by decide +kernel)) (by decide +kernel) hZ.1.1 hZ.1.2 hS (by rw [hml]; exact hl.1) dX7_addSkill_24 dX7_addSkill_27 dX7_addSkill_28 dX7_addSkill_30 dX7_addSkill_33 (fun x hx => (ht9 x hx).elim) (Nat.le_of_ble_eq_true rfl) (Nat.le_of_ble_eq_true rfl) (Nat.le_of_ble_eq_true rfl) (Nat.le_of_ble_eq_true rfl) hlocks (fun t9 hv9 hz9 hq9 => mq_thrown hM hS hz9 hq9 (⟨rfl, Or.inr (⟨congrArg Prod.fst (show spSkill S (nI gu) (nI sl) (nI ga) = ((2, 0, S) : Nat × Int32 × AT) from (spSkill_y hgu hsl hga).trans (if_neg c_21)), rfl⟩)⟩)) hS.2.2 (Nat.le_of_ble_eq_true rfl) (Nat.le_of_ble_eq_true rfl)

set_option maxHeartbeats 4000000 in
set_option maxRecDepth 100000 in
theorem c_X7_make (l : Launch) (hfl : l.stackTraces = false) (G : mq_G) (A : Nat → Prop) (f : mq_F) (ad : AD) (S : AT) (X : CX) (S2 : AT) (Y : MX) (O : OX) (T : Nat) (ua ub uc : Int32) : vx_Met l yX7_make wsX7_make ({ frames := 8, cells := 6, slots := 27, locals := 142 } : Room) (mq_Pc G A f (WR G f ad S X S2 Y O ∧ cOK S X T ∧ T < 512) [.ref (ad 0 0 0), .int ua, .int ub, .int uc]) (mq_Qi G A (fun r g => ∃ S9 X9 ad9, spMake S ua ub uc = (0, r, S9) ∧ WR G g ad9 S9 X9 S2 Y O ∧ cOK S9 X9 (T + 1) ∧ adK ad ad9)) (mq_X G A (fun E g => f = g ∧ ((spMake S ua ub uc).1 = 1 ∧ E = "java/lang/IndexOutOfBoundsException" ∨ (spMake S ua ub uc).1 = 2 ∧ E = "java/lang/IllegalArgumentException" ∨ (spMake S ua ub uc).1 = 3 ∧ E = "java/lang/IllegalStateException"))) 6 27 A := by
  refine vx_ofW (cc := cX7_make) (maxL := 7) (ret := (some .int)) (by decide) rfl ?_
  intro p e s m args below meth c s₁ B hml ht9 hv
  obtain ⟨rfl, ⟨hK, hZ, hM, hA⟩, hp⟩ := hv
  have hx := B.exec
  have hb := B.bytes
  have hr := B.returns
  have hts := atoms_spec (ws := wsX7_make) B.pre
  have hown : s.vm.findClass RX7 = some m.cls := findClass_of_methodNamed B.named
  have hlocks := B.notSynchronized
  have hS : va_S A s.heap s.heap [] := va_S.rf
  have hl := lv_entry ([.ref (ad 0 0 0), .int ua, .int ub, .int uc]) (n := 7) (Nat.le_of_ble_eq_true rfl)
  rw [lg_entry_eq]
  generalize (lg_sl ([.ref (ad 0 0 0), .int ua, .int ub, .int uc]) ++ List.replicate (7 - (lg_sl ([.ref (ad 0 0 0), .int ua, .int ub, .int uc])).length) Slot.unset).toArray = ls at hl ⊢
  have hl : lv_has ls 7 [(0, .ref (ad 0 0 0)), (1, .int ua), (2, .int ub), (3, .int uc)] := hl
  have w0 := hts (.classLink RX7 54 "java/lang/IllegalArgumentException") (List.mem_of_getElem? (i := 1) rfl)
  have w1 := hts (.initialized "java/lang/IllegalArgumentException") (List.mem_of_getElem? (i := 2) rfl)
  have w2 := hts (.classLink RX7 163 RX1) (List.mem_of_getElem? (i := 3) rfl)
  have w3 := hts (.instantiable RX1 5) (List.mem_of_getElem? (i := 4) rfl)
  have w4 := hts (.initialized RX1) (List.mem_of_getElem? (i := 5) rfl)
  have w5 := hts (.methodLink RX7 165 yX1_init) (List.mem_of_getElem? (i := 52) rfl)
  have w6 := hts (.instanceMethod yX1_init) (List.mem_of_getElem? (i := 53) rfl)
  have w7 := hts (.fieldLink RX7 168 "Tutorlight$Learner" "exercise" "LTutorlight$Exercise;") (List.mem_of_getElem? (i := 6) rfl)
  have nX1 : ∀ w ∈ wsX10, w ∈ wsX7_make := fun _ h => List.mem_cons_of_mem _ (List.mem_append_left _ (List.mem_append_left _ (List.mem_append_left _ (List.mem_append_left _ (List.mem_append_left _ (List.mem_append_left _ (List.mem_append_left _ (List.mem_append_left _ (List.mem_append_left _ (List.mem_append_right _ h))))))))))
  have nX3 : ∀ w ∈ wsX30, w ∈ wsX7_make := fun _ h => List.mem_cons_of_mem _ (List.mem_append_left _ (List.mem_append_left _ (List.mem_append_left _ (List.mem_append_left _ (List.mem_append_left _ (List.mem_append_left _ (List.mem_append_left _ (List.mem_append_left _ (List.mem_append_right _ h)))))))))
  obtain ⟨hR, hO, hT5⟩ := hp
  obtain ⟨⟨hn, hl4, hd2, hT⟩, hsk, hma, hdc, hle, hxb⟩ := id hO
  have y0_121 := hR.1 _ _ _ _ (t0)
  refine lv_aload_n hx hb dX7_make_0 rfl (lv_at hl 0 rfl) ?_
  refine lv_iload_n hx hb dX7_make_1 rfl (lv_at hl 1 rfl) ?_
  refine mq_xcallq (vx_runV (As := [.int ua]) (rest := []) ⟨hx, hb, hml, hown, hts⟩ (c_X7_learnerAt l hfl G A f ad S X S2 Y O T ua) (cwV 1 hts gX7_make_X7_learnerAt rfl rfl rfl (by decide +kernel) ⟨Nat.le_of_ble_eq_true rfl, Nat.le_of_ble_eq_true rfl⟩) (mq_preV hK hZ hS hA hM (q := (RX7, TX7, 6)) y0_121 rfl (⟨hR, hO⟩) _) rfl rfl hl.1 rfl (lv_room (Nat.le_of_ble_eq_true rfl)) dX7_make_2 ⟨Nat.le_of_ble_eq_true rfl, Nat.le_of_ble_eq_true rfl⟩) hS (fun E ce q9 g2 H locs p2 hM hS hce hcv hcl => ?_) (fun r2 g2 H locs p2 hM hS => ?_)
  · obtain ⟨rfl, rfl, q9⟩ := p2
    exact mq_out (List.eq_nil_iff_forall_not_mem.mpr fun x hx => ht9 x hx) hlocks hce hcv hcl hM hS (⟨rfl, Or.inl (⟨congrArg Prod.fst (spLS_n (fun q => q9 q.1)), rfl⟩)⟩) (Nat.le_of_ble_eq_true rfl) (Nat.le_of_ble_eq_true rfl)
  refine W.widen (k := 1) (n := 6) (Nat.le_of_ble_eq_true rfl) (Nat.le_of_ble_eq_true rfl) ?_
  obtain ⟨rfl, j, hj, rfl, rfl⟩ := p2
  refine lv_astore (lv' := [(4, .ref (ad 5 j 0)), (0, .ref (ad 0 0 0)), (1, .int (nI j)), (2, .int ub), (3, .int uc)]) hx hb dX7_make_5 hl (by decide) rfl (fun ls hl => ?_)
  refine lv_aload_n hx hb dX7_make_7 rfl (lv_at hl 1 rfl) ?_
  refine lv_iload_n hx hb dX7_make_8 rfl (lv_at hl 3 rfl) ?_
  refine mq_xcallq (vx_runV (As := [.int ub]) (rest := []) ⟨hx, hb, hml, hown, hts⟩ (c_X7_skillAt l hfl G A f ad S X S2 Y O T ub) (cwV 1 hts gX7_make_X7_skillAt rfl rfl rfl (by decide +kernel) ⟨Nat.le_of_ble_eq_true rfl, Nat.le_of_ble_eq_true rfl⟩) (mq_preV hK hZ hS hA hM (q := (RX7, TX7, 6)) y0_121 rfl (⟨hR, hO⟩) _) rfl rfl hl.1 rfl (lv_room (Nat.le_of_ble_eq_true rfl)) dX7_make_9 ⟨Nat.le_of_ble_eq_true rfl, Nat.le_of_ble_eq_true rfl⟩) hS (fun E ce q9 g9 H locs p9 hM hS hce hcv hcl => ?_) (fun r9 g9 H locs p9 hM hS => ?_)
  · obtain ⟨rfl, rfl, q9⟩ := p9
    exact mq_out (List.eq_nil_iff_forall_not_mem.mpr fun x hx => ht9 x hx) hlocks hce hcv hcl hM hS (⟨rfl, Or.inl (⟨congrArg Prod.fst (spLS_n (fun q => q9 q.2)), rfl⟩)⟩) (Nat.le_of_ble_eq_true rfl) (Nat.le_of_ble_eq_true rfl)
  refine W.widen (k := 2) (n := 12) (Nat.le_of_ble_eq_true rfl) (Nat.le_of_ble_eq_true rfl) ?_
  obtain ⟨rfl, k, hk, rfl, rfl⟩ := p9
  refine lv_pop hx hb dX7_make_12 rfl ?_
  refine lv_iload_n hx hb dX7_make_13 rfl (lv_at hl 4 rfl) ?_
  refine lv_if_lt (tgt := 24) hx hb dX7_make_14 (by decide) (fun c_14 => ?_) (fun c_14 => ?_)
  · obtain ⟨sa, hsa⟩ := mq_str hZ (own := RX7) (k := 155) (tx := "number out of range") (by decide +kernel)
    refine vx_throwS (A := A) (own := RX7) (cls := "java/lang/IllegalArgumentException") (text := "number out of range") (names := ["java/lang/RuntimeException", "java/lang/Exception"]) (ik := 54) (is := 155) (ic := 58) hx hb hfl hown (by decide +kernel) (by decide +kernel) w0 w1 hsa (mq_hat hZ (fun w h => hts w (List.mem_cons_of_mem _ (List.mem_append_left _ (List.mem_append_left _ (List.mem_append_left _ (List.mem_append_right _ h)))))) (by decide +kernel)) (by decide +kernel) hZ.1.1 hZ.1.2 hS (by rw [hml]; exact hl.1) dX7_make_24 dX7_make_27 dX7_make_28 dX7_make_30 dX7_make_33 (fun x hx => (ht9 x hx).elim) (Nat.le_of_ble_eq_true rfl) (Nat.le_of_ble_eq_true rfl) (Nat.le_of_ble_eq_true rfl) (Nat.le_of_ble_eq_true rfl) hlocks (fun t9 hv9 hz9 hq9 => mq_thrown hM hS hz9 hq9 (⟨rfl, Or.inr (Or.inl (⟨congrArg Prod.fst (show spMake S (nI j) (nI k) uc = ((2, 0, S) : Nat × Int32 × AT) from (spLS_y hj hk hl4 hn).trans (if_neg (by rw [vI_iff]; exact fun q => q (Or.inl c_14)))), rfl⟩))⟩)) hS.2.2 (Nat.le_of_ble_eq_true rfl) (Nat.le_of_ble_eq_true rfl)
  · obtain ⟨N, hN31, rfl⟩ := nI_of c_14
    refine lv_iload_n hx hb dX7_make_17 rfl (lv_at hl 4 rfl) ?_
    refine lv_sipush (v := 1260) hx hb dX7_make_18 (by decide) ?_
    refine lv_icmp_lt (tgt := 34) hx hb dX7_make_21 (by decide) (fun c_21 => ?_) (fun c_21 => ?_)
    · replace c_21 : nI N < nI 1260 := c_21
      rw [nI_ltI (by omega) (by omega)] at c_21
      refine lv_aload_n hx hb dX7_make_34 rfl (lv_at hl 1 rfl) ?_
      refine lv_aload hx hb dX7_make_35 (lv_at hl 0 rfl) ?_
      refine lv_iload_n hx hb dX7_make_37 rfl (lv_at hl 3 rfl) ?_
      refine mq_xcallv (vx_runV (As := [.ref (ad 5 j 0), .int (nI k)]) (rest := []) ⟨hx, hb, hml, hown, hts⟩ (c_X7_checkOpen l hfl G A f ad S X S2 Y O T j k) (cwV 2 hts gX7_make_X7_checkOpen rfl rfl rfl (by decide +kernel) ⟨Nat.le_of_ble_eq_true rfl, Nat.le_of_ble_eq_true rfl⟩) (mq_preV hK hZ hS hA hM (q := (RX7, TX7, 6)) y0_121 rfl (⟨hR, hO, hj, hk⟩) _) rfl rfl hl.1 rfl (lv_room (Nat.le_of_ble_eq_true rfl)) dX7_make_38 ⟨Nat.le_of_ble_eq_true rfl, Nat.le_of_ble_eq_true rfl⟩) hS (fun E ce q9 g38 H locs p38 hM hS hce hcv hcl => ?_) (fun g38 H locs p38 hM hS => ?_)
      · obtain ⟨rfl, rfl, q9⟩ := p38
        exact mq_out (List.eq_nil_iff_forall_not_mem.mpr fun x hx => ht9 x hx) hlocks hce hcv hcl hM hS (⟨rfl, Or.inr (Or.inr (⟨congrArg Prod.fst (show spMake S (nI j) (nI k) (nI N) = ((3, 0, S) : Nat × Int32 × AT) from (spLS_y hj hk hl4 hn).trans ((if_pos (vI_nI c_21 (by decide))).trans (if_neg (by rw [q9]; decide)))), rfl⟩))⟩) (Nat.le_of_ble_eq_true rfl) (Nat.le_of_ble_eq_true rfl)
      refine W.widen (k := 3) (n := 18) (Nat.le_of_ble_eq_true rfl) (Nat.le_of_ble_eq_true rfl) ?_
      obtain ⟨rfl, ho9⟩ := p38
      obtain ⟨hx1, hri, hx3⟩ := hle j hj
      have y5_119 := hR.1 _ _ _ _ (t5 (j := j) hj)
      have y9_120 := hR.1 _ _ _ _ (t9 (j := j) hj)
      refine lv_iload_n hx hb dX7_make_41 rfl (lv_at hl 4 rfl) ?_
      refine lv_istore (lv' := [(5, .int (nI N)), (4, .ref (ad 5 j 0)), (0, .ref (ad 0 0 0)), (1, .int (nI j)), (2, .int (nI k)), (3, .int (nI N))]) hx hb dX7_make_42 hl (by decide) rfl (fun ls hl => ?_)
      refine lv_iconst (v := 0) hx hb dX7_make_44 (by decide) ?_
      refine lv_istore (lv' := [(6, .int 0), (5, .int (nI N)), (4, .ref (ad 5 j 0)), (0, .ref (ad 0 0 0)), (1, .int (nI j)), (2, .int (nI k)), (3, .int (nI N))]) hx hb dX7_make_45 hl (by decide) rfl (fun ls hl => ?_)
      have K47 : ∀ (n9 : Nat) (i v : Nat), (3 - i) < n9 → (i ≤ 3) → (v < 1260) → (mkT (lat (lMd (aE S j))) 3 N = mkT (lat (lMd (aE S j))) (3 - i) v) → ∀ (H : Heap) (locs : List Loc), mq_W G.1 A f H → va_S A s.heap H locs → ∀ (ls : Array Slot), lv_has ls 7 [(2, .int (nI k)), (4, .ref (ad 5 j 0)), (5, .int (nI v)), (6, .int (nI i))] → W p l e (headSpec wsX7_make ({ frames := 8, cells := 6, slots := 27, locals := 142 } : Room)).room s m ([.ref (ad 0 0 0), .int (nI j), .int (nI k), .int (nI N)] : List Value).toArray below meth c H locs 3 18 (vx_MQ below (mq_Qi G A (fun r g => ∃ S9 X9 ad9, spMake S (nI j) (nI k) (nI N) = (0, r, S9) ∧ WR G g ad9 S9 X9 S2 Y O ∧ cOK S9 X9 (T + 1) ∧ adK ad ad9)) (mq_X G A (fun E g => f = g ∧ ((spMake S (nI j) (nI k) (nI N)).1 = 1 ∧ E = "java/lang/IndexOutOfBoundsException" ∨ (spMake S (nI j) (nI k) (nI N)).1 = 2 ∧ E = "java/lang/IllegalArgumentException" ∨ (spMake S (nI j) (nI k) (nI N)).1 = 3 ∧ E = "java/lang/IllegalStateException"))) ([.ref (ad 0 0 0), .int (nI j), .int (nI k), .int (nI N)] : List Value).toArray s 6 27 A) (F0 m 47 ls []) := by
        intro n9
        induction n9 with
        | zero => intro i v hn9; exact absurd hn9 (Nat.not_lt_zero _)
        | succ n9 ih47 =>
          intro i v hn9 hi hv hq0 H locs hM hS ls hl
          have K79 : ∀ (v : Nat), (v < 1260) → (mkT (lat (lMd (aE S j))) 3 N = v) → ∀ (H : Heap) (locs : List Loc), mq_W G.1 A f H → va_S A s.heap H locs → ∀ (ls : Array Slot), lv_has ls 7 [(2, .int (nI k)), (4, .ref (ad 5 j 0)), (5, .int (nI v))] → W p l e (headSpec wsX7_make ({ frames := 8, cells := 6, slots := 27, locals := 142 } : Room)).room s m ([.ref (ad 0 0 0), .int (nI j), .int (nI k), .int (nI N)] : List Value).toArray below meth c H locs 3 18 (vx_MQ below (mq_Qi G A (fun r g => ∃ S9 X9 ad9, spMake S (nI j) (nI k) (nI N) = (0, r, S9) ∧ WR G g ad9 S9 X9 S2 Y O ∧ cOK S9 X9 (T + 1) ∧ adK ad ad9)) (mq_X G A (fun E g => f = g ∧ ((spMake S (nI j) (nI k) (nI N)).1 = 1 ∧ E = "java/lang/IndexOutOfBoundsException" ∨ (spMake S (nI j) (nI k) (nI N)).1 = 2 ∧ E = "java/lang/IllegalArgumentException" ∨ (spMake S (nI j) (nI k) (nI N)).1 = 3 ∧ E = "java/lang/IllegalStateException"))) ([.ref (ad 0 0 0), .int (nI j), .int (nI k), .int (nI N)] : List Value).toArray s 6 27 A) (F0 m 79 ls []) := by
            intro v hv hq H locs hM hS ls hl
            refine lv_aload hx hb dX7_make_79 (lv_at hl 1 rfl) ?_
            refine lv_iload hx hb dX7_make_81 (lv_at hl 2 rfl) ?_
            refine mq_callv (va_runV (As := [.int (nI v)]) (rest := []) ⟨hx, hb, hml, hown, hts⟩ (c_X3_remember l G A f (ad 5 j 0) (ad 6 j 0) (ad 9 j 0) (xOl X j) (oMap (lEx (aE S j)) (ad 10 j 0)) (oMap (lWs (aE S j)) (ad 12 j 0)) (xLn X j) (nI v)) (cwV 1 hts gX7_make_X3_remember rfl rfl rfl (by decide +kernel) ⟨Nat.le_of_ble_eq_true rfl, Nat.le_of_ble_eq_true rfl⟩) (mq_preV hK hZ hS hA hM (q := (RX3, TX3, 5)) y5_119 rfl (⟨⟨y5_119, y9_120⟩, hri.1⟩) _) rfl rfl hl.1 rfl (lv_room (Nat.le_of_ble_eq_true rfl)) dX7_make_83 ⟨Nat.le_of_ble_eq_true rfl, Nat.le_of_ble_eq_true rfl⟩) hS (fun g83 H locs p83 hM hS => ?_)
            refine W.widen (k := 3) (n := 18) (Nat.le_of_ble_eq_true rfl) (Nat.le_of_ble_eq_true rfl) ?_
            have hR1 := WR_ri hR _ _ hj p83
            have y5 := mq_s p83
            refine lv_aload hx hb dX7_make_86 (lv_at hl 1 rfl) ?_
            refine mq_new (ci := 6) (fs := [.int 0, .int 0, .null, .int 0, .int 0]) (C := RX1) (T := TX1) (N := 5) hx hb hts nX1 tyX1 tyX1_ok hown w2 w3 w4 hK hM hS hA rfl (fun j hj => by rcases (show j = 0 ∨ j = 1 ∨ j = 2 ∨ j = 3 ∨ j = 4 by omega) with rfl | rfl | rfl | rfl | rfl <;> rfl) (Nat.le_of_ble_eq_true rfl) (Nat.le_of_ble_eq_true rfl) dX7_make_88 (fun q88 f_1 H hq88 e_2 hM hS => ?_)
            refine W.widen (k := 4) (n := 23) (Nat.le_of_ble_eq_true rfl) (Nat.le_of_ble_eq_true rfl) ?_
            have h_3 : f_1 (ad 5 j 0) = some (.inr (8, [.ref (ad 6 j 0), va_rf (oMap (lEx (aE S j)) (ad 10 j 0)), va_rf (oMap (lWs (aE S j)) (ad 12 j 0)), .ref (ad 9 j 0), .int (nI ((xOl X j + 1) % 3))])) := mq_n e_2 y5 (mq_neN y5 hq88)
            have h_4 : f_1 q88 = some (.inr (6, [.int 0, .int 0, .null, .int 0, .int 0])) := mq_s e_2
            refine lv_dup hx hb dX7_make_91 rfl ?_
            refine lv_iload_n hx hb dX7_make_92 rfl (lv_at hl 0 rfl) ?_
            refine lv_iload hx hb dX7_make_93 (lv_at hl 2 rfl) ?_
            refine mq_callv (va_runI (As := [.int (nI k), .int (nI v)]) (rest := [.ref q88, .ref (ad 5 j 0)]) ⟨hx, hb, hml, hown, hts⟩ (c_X1_init l G A f_1 q88 k v) (cwI 2 hts gX7_make_X1_init rfl rfl rfl w4 w5 w6 rfl (by decide +kernel) ⟨Nat.le_of_ble_eq_true rfl, Nat.le_of_ble_eq_true rfl⟩) (mq_preS hK hZ hS hA hM (⟨h_4, hv⟩) _) rfl rfl hl.1 rfl (lv_room (Nat.le_of_ble_eq_true rfl)) dX7_make_95 ⟨Nat.le_of_ble_eq_true rfl, Nat.le_of_ble_eq_true rfl⟩) hS (fun g95 H locs p95 hM hS => ?_)
            refine W.widen (k := 5) (n := 27) (Nat.le_of_ble_eq_true rfl) (Nat.le_of_ble_eq_true rfl) ?_
            obtain ⟨w95, hw95, hn95, e95⟩ := p95
            obtain ⟨fw95, ew95⟩ : ∃ h, h = mq_up f_1 w95 (cEq (ex_eq v)) := ⟨_, rfl⟩
            rw [← ew95] at e95
            have h_5 : fw95 (ad 5 j 0) = some (.inr (8, [.ref (ad 6 j 0), va_rf (oMap (lEx (aE S j)) (ad 10 j 0)), va_rf (oMap (lWs (aE S j)) (ad 12 j 0)), .ref (ad 9 j 0), .int (nI ((xOl X j + 1) % 3))])) := mq_n ew95 h_3 (mq_neN h_3 hw95)
            have h_6 : fw95 q88 = some (.inr (6, [.int 0, .int 0, .null, .int 0, .int 0])) := mq_n ew95 h_4 (mq_neN h_4 hw95)
            have h_7 : fw95 w95 = some (.inr (5, [.int ((ex_eq v).1), .int ((ex_eq v).2.1), .int ((ex_eq v).2.2.1), .int ((ex_eq v).2.2.2)])) := mq_s ew95
            have h_8 : g95 (ad 5 j 0) = some (.inr (8, [.ref (ad 6 j 0), va_rf (oMap (lEx (aE S j)) (ad 10 j 0)), va_rf (oMap (lWs (aE S j)) (ad 12 j 0)), .ref (ad 9 j 0), .int (nI ((xOl X j + 1) % 3))])) := mq_n e95 h_5 (mq_neN y5 hq88)
            have h_9 : g95 w95 = some (.inr (5, [.int ((ex_eq v).1), .int ((ex_eq v).2.1), .int ((ex_eq v).2.2.1), .int ((ex_eq v).2.2.2)])) := mq_n e95 h_7 (Ne.symm (mq_neN h_4 hw95))
            have h_10 : g95 q88 = some (.inr (6, [.int (nI k), .int (ex_sol v), .ref w95, .int (nI 0), .int (nI 0)])) := mq_s e95
            refine mq_put (ci := 8) (v := .ref q88) (ty := .object "Tutorlight$Exercise") (C := RX3) (T := TX3) (N := 5) (fs' := [.ref (ad 6 j 0), .ref q88, va_rf (oMap (lWs (aE S j)) (ad 12 j 0)), .ref (ad 9 j 0), .int (nI ((xOl X j + 1) % 3))]) hx hb hts nX3 tyX3 tyX3_ok nmX3 hown hK hM hS h_8 rfl 1 (by decide) w7 (fun _ h9 => h9) rfl (by decide +kernel) rfl rfl (Nat.le_of_ble_eq_true rfl) dX7_make_98 rfl (fun f_11 H locs e_12 hM hS => ?_)
            have h_13 : f_11 w95 = some (.inr (5, [.int ((ex_eq v).1), .int ((ex_eq v).2.1), .int ((ex_eq v).2.2.1), .int ((ex_eq v).2.2.2)])) := mq_n e_12 h_9 (Ne.symm (mq_neN h_3 hw95))
            have h_14 : f_11 q88 = some (.inr (6, [.int (nI k), .int (ex_sol v), .ref w95, .int (nI 0), .int (nI 0)])) := mq_n e_12 h_10 (Ne.symm (mq_neN y5 hq88))
            have h_15 : f_11 (ad 5 j 0) = some (.inr (8, [.ref (ad 6 j 0), .ref q88, va_rf (oMap (lWs (aE S j)) (ad 12 j 0)), .ref (ad 9 j 0), .int (nI ((xOl X j + 1) % 3))])) := mq_s e_12
            refine lv_iload hx hb dX7_make_101 (lv_at hl 2 rfl) ?_
            refine vx_ret ?_
            refine W.widen (k := 6) (n := 27) (Nat.le_of_ble_eq_true rfl) (Nat.le_of_ble_eq_true rfl) ?_
            exact mq_iret (v := nI v) hx hb hr hlocks hM hS (⟨_, _, _, (spLS_y hj hk hl4 hn).trans ((if_pos (vI_nI c_21 (by decide))).trans ((if_pos ho9).trans (by rw [nI_clamp (by omega), hq]))), WR_mk hR1 (k, v, ex_eq v, 0, 0) w95 q88 (lMd (aE S j) ++ [v]) hj hq88 e_2 hw95 ew95 e95 (by rw [e_12]; show _ = mq_up _ _ (cLe _ _ _ _ (fU (xOl X) j _ j)); rw [fU_s]; rfl), ok_make hO hT5 hj hk hv, ⟨rfl, rfl, rfl, rfl⟩⟩) dX7_make_103
          refine lv_iload hx hb dX7_make_47 (lv_at hl 3 rfl) ?_
          refine lv_iconst (v := 3) hx hb dX7_make_49 (by decide) ?_
          refine lv_icmp_ge (tgt := 79) hx hb dX7_make_50 (by decide) (fun c_50 => ?_) (fun c_50 => ?_)
          · replace c_50 : nI 3 ≤ nI i := c_50
            rw [nI_leI (by omega) (by omega)] at c_50
            exact K79 v (hv) (by rw [hq0, show 3 - i = 0 by omega]; rfl) _ _ hM hS _ (lv_sub hl [0, 1, 2] rfl)
          · replace c_50 : ¬ nI 3 ≤ nI i := c_50
            rw [nI_leI (by omega) (by omega)] at c_50
            refine lv_aload hx hb dX7_make_53 (lv_at hl 1 rfl) ?_
            refine lv_iload hx hb dX7_make_55 (lv_at hl 2 rfl) ?_
            refine mq_calli (va_runV (As := [.int (nI v)]) (rest := []) ⟨hx, hb, hml, hown, hts⟩ (c_X3_remembers l G A f (ad 5 j 0) (ad 6 j 0) (ad 9 j 0) (xOl X j) (oMap (lEx (aE S j)) (ad 10 j 0)) (oMap (lWs (aE S j)) (ad 12 j 0)) (xLn X j) (nI v)) (cwV 1 hts gX7_make_X3_remembers rfl rfl rfl (by decide +kernel) ⟨Nat.le_of_ble_eq_true rfl, Nat.le_of_ble_eq_true rfl⟩) (mq_preV hK hZ hS hA hM (q := (RX3, TX3, 5)) y5_119 rfl (⟨y5_119, y9_120⟩) _) rfl rfl hl.1 rfl (lv_room (Nat.le_of_ble_eq_true rfl)) dX7_make_57 ⟨Nat.le_of_ble_eq_true rfl, Nat.le_of_ble_eq_true rfl⟩) hS (fun r57 g57 H locs p57 hM hS => ?_)
            refine W.widen (k := 3) (n := 18) (Nat.le_of_ble_eq_true rfl) (Nat.le_of_ble_eq_true rfl) ?_
            obtain ⟨rfl, rfl⟩ := p57
            rw [ring_lat hri hv]
            refine lv_if_eq (tgt := 79) hx hb dX7_make_60 (by decide) (fun c_60 => ?_) (fun c_60 => ?_)
            · replace c_60 : zb (lat (lMd (aE S j)) v) = 0 := c_60
              rw [zb_0] at c_60
              exact K79 v (hv) (by rw [hq0, mkT_f c_60]) _ _ hM hS _ (lv_sub hl [0, 1, 2] rfl)
            · replace c_60 : ¬ zb (lat (lMd (aE S j)) v) = 0 := c_60
              rw [zb_n0] at c_60
              refine lv_iload hx hb dX7_make_63 (lv_at hl 2 rfl) ?_
              refine lv_iconst (v := 1) hx hb dX7_make_65 (by decide) ?_
              refine lv_iadd hx hb dX7_make_66 ?_
              rw [show (nI v) + 1 = nI (v + 1) from nI_add _ _]
              refine lv_sipush (v := 1260) hx hb dX7_make_67 (by decide) ?_
              refine lv_irem hx hb dX7_make_70 (by decide) ?_
              rw [show (nI (v + 1)) - (nI (v + 1)) / 1260 * 1260 = nI ((v + 1) % 1260) from pk_rem (a := v + 1) (d := 1260) (by omega) (by omega) (by omega)]
              refine lv_istore (lv' := [(5, .int (nI ((v + 1) % 1260))), (2, .int (nI k)), (4, .ref (ad 5 j 0)), (6, .int (nI i))]) hx hb dX7_make_71 hl (by decide) rfl (fun ls hl => ?_)
              refine lv_iinc (v := nI (i + 1)) (lv' := [(6, .int (nI (i + 1))), (5, .int (nI ((v + 1) % 1260))), (2, .int (nI k)), (4, .ref (ad 5 j 0))]) hx hb dX7_make_73 hl (k := 3) rfl (nI_add _ _) (by decide) rfl (fun ls hl => ?_)
              refine lv_goto (tgt := 47) hx hb dX7_make_76 (by decide) ?_
              exact ih47 (i + 1) ((v + 1) % 1260) (by omega) (by omega) (Nat.mod_lt _ (by decide)) (by rw [hq0, show 3 - i = 3 - (i + 1) + 1 by omega, mkT_t c_60]) _ _ hM hS _ (lv_sub hl [2, 3, 1, 0] rfl)
      exact K47 _ 0 N (Nat.lt_succ_self _) (Nat.zero_le _) (c_21) (rfl) _ _ hM hS _ (lv_sub hl [5, 2, 1, 0] rfl)
    · replace c_21 : ¬ nI N < nI 1260 := c_21
      rw [nI_ltI (by omega) (by omega)] at c_21
      obtain ⟨sa, hsa⟩ := mq_str hZ (own := RX7) (k := 155) (tx := "number out of range") (by decide +kernel)
      refine vx_throwS (A := A) (own := RX7) (cls := "java/lang/IllegalArgumentException") (text := "number out of range") (names := ["java/lang/RuntimeException", "java/lang/Exception"]) (ik := 54) (is := 155) (ic := 58) hx hb hfl hown (by decide +kernel) (by decide +kernel) w0 w1 hsa (mq_hat hZ (fun w h => hts w (List.mem_cons_of_mem _ (List.mem_append_left _ (List.mem_append_left _ (List.mem_append_left _ (List.mem_append_right _ h)))))) (by decide +kernel)) (by decide +kernel) hZ.1.1 hZ.1.2 hS (by rw [hml]; exact hl.1) dX7_make_24 dX7_make_27 dX7_make_28 dX7_make_30 dX7_make_33 (fun x hx => (ht9 x hx).elim) (Nat.le_of_ble_eq_true rfl) (Nat.le_of_ble_eq_true rfl) (Nat.le_of_ble_eq_true rfl) (Nat.le_of_ble_eq_true rfl) hlocks (fun t9 hv9 hz9 hq9 => mq_thrown hM hS hz9 hq9 (⟨rfl, Or.inr (Or.inl (⟨congrArg Prod.fst (show spMake S (nI j) (nI k) (nI N) = ((2, 0, S) : Nat × Int32 × AT) from (spLS_y hj hk hl4 hn).trans (if_neg (by rw [vI_iff]; exact fun q => by rw [vp_in_iff, nI_toInt (by omega)] at q; omega))), rfl⟩))⟩)) hS.2.2 (Nat.le_of_ble_eq_true rfl) (Nat.le_of_ble_eq_true rfl)

set_option maxHeartbeats 4000000 in
set_option maxRecDepth 100000 in
theorem c_X7_explain (l : Launch) (hfl : l.stackTraces = false) (G : mq_G) (A : Nat → Prop) (f : mq_F) (ad : AD) (S : AT) (X : CX) (S2 : AT) (Y : MX) (O : OX) (T : Nat) (ua : Int32) : vx_Met l yX7_explain wsX7_explain ({ frames := 10, cells := 3, slots := 18, locals := 225 } : Room) (mq_Pc G A f (WR G f ad S X S2 Y O ∧ cOK S X T ∧ T < 512) [.ref (ad 0 0 0), .int ua]) (mq_Qi G A (fun r g => ∃ X9, spExpl S ua = (0, r) ∧ WR G g ad S X9 S2 Y O ∧ cOK S X9 (T + 1))) (mq_X G A (fun E g => ((spExpl S ua).1 = 1 ∧ E = "java/lang/IndexOutOfBoundsException" ∨ (spExpl S ua).1 = 2 ∧ E = "java/lang/IllegalStateException" ∨ (spExpl S ua).1 = 3 ∧ E = "java/util/NoSuchElementException") ∧ ∃ X9, WR G g ad S X9 S2 Y O ∧ cOK S X9 (T + 1))) 3 18 A := by
  refine vx_ofW (cc := cX7_explain) (maxL := 4) (ret := (some .int)) (by decide) rfl ?_
  intro p e s m args below meth c s₁ B hml ht9 hv
  obtain ⟨rfl, ⟨hK, hZ, hM, hA⟩, hp⟩ := hv
  have hx := B.exec
  have hb := B.bytes
  have hr := B.returns
  have hts := atoms_spec (ws := wsX7_explain) B.pre
  have hown : s.vm.findClass RX7 = some m.cls := findClass_of_methodNamed B.named
  have hlocks := B.notSynchronized
  have hS : va_S A s.heap s.heap [] := va_S.rf
  have hl := lv_entry ([.ref (ad 0 0 0), .int ua]) (n := 4) (Nat.le_of_ble_eq_true rfl)
  rw [lg_entry_eq]
  generalize (lg_sl ([.ref (ad 0 0 0), .int ua]) ++ List.replicate (4 - (lg_sl ([.ref (ad 0 0 0), .int ua])).length) Slot.unset).toArray = ls at hl ⊢
  have hl : lv_has ls 4 [(0, .ref (ad 0 0 0)), (1, .int ua)] := hl
  have w0 := hts (.fieldLink RX7 206 "Tutorlight$Learner" "wrongStep" "LTutorlight$WrongStep;") (List.mem_of_getElem? (i := 5) rfl)
  have w1 := hts (.classLink RX7 36 "java/lang/IllegalStateException") (List.mem_of_getElem? (i := 1) rfl)
  have w2 := hts (.initialized "java/lang/IllegalStateException") (List.mem_of_getElem? (i := 2) rfl)
  have w3 := hts (.fieldLink RX7 24 "Tutorlight" "explainer" "LTutorlight$Explainer;") (List.mem_of_getElem? (i := 6) rfl)
  have w4 := hts (.classLink RX7 129 "java/util/NoSuchElementException") (List.mem_of_getElem? (i := 3) rfl)
  have w5 := hts (.initialized "java/util/NoSuchElementException") (List.mem_of_getElem? (i := 4) rfl)
  have nX3 : ∀ w ∈ wsX30, w ∈ wsX7_explain := fun _ h => List.mem_cons_of_mem _ (List.mem_append_left _ (List.mem_append_left _ (List.mem_append_left _ (List.mem_append_left _ (List.mem_append_left _ (List.mem_append_left _ (List.mem_append_left _ (List.mem_append_left _ (List.mem_append_right _ h)))))))))
  have nX7 : ∀ w ∈ wsX70, w ∈ wsX7_explain := fun _ h => List.mem_cons_of_mem _ (List.mem_append_left _ (List.mem_append_left _ (List.mem_append_left _ (List.mem_append_left _ (List.mem_append_left _ (List.mem_append_left _ (List.mem_append_left _ (List.mem_append_right _ h))))))))
  obtain ⟨hR, hO, hT5⟩ := hp
  obtain ⟨⟨hn, hl4, hd2, hT⟩, hsk, hma, hdc, hle, hxb⟩ := id hO
  have y0_127 := hR.1 _ _ _ _ (t0)
  refine lv_aload_n hx hb dX7_explain_0 rfl (lv_at hl 0 rfl) ?_
  refine lv_iload_n hx hb dX7_explain_1 rfl (lv_at hl 1 rfl) ?_
  refine mq_xcallq (vx_runV (As := [.int ua]) (rest := []) ⟨hx, hb, hml, hown, hts⟩ (c_X7_learnerAt l hfl G A f ad S X S2 Y O T ua) (cwV 1 hts gX7_explain_X7_learnerAt rfl rfl rfl (by decide +kernel) ⟨Nat.le_of_ble_eq_true rfl, Nat.le_of_ble_eq_true rfl⟩) (mq_preV hK hZ hS hA hM (q := (RX7, TX7, 6)) y0_127 rfl (⟨hR, hO⟩) _) rfl rfl hl.1 rfl (lv_room (Nat.le_of_ble_eq_true rfl)) dX7_explain_2 ⟨Nat.le_of_ble_eq_true rfl, Nat.le_of_ble_eq_true rfl⟩) hS (fun E ce q9 g2 H locs p2 hM hS hce hcv hcl => ?_) (fun r2 g2 H locs p2 hM hS => ?_)
  · obtain ⟨rfl, rfl, q9⟩ := p2
    exact mq_out (List.eq_nil_iff_forall_not_mem.mpr fun x hx => ht9 x hx) hlocks hce hcv hcl hM hS (⟨Or.inl ⟨congrArg Prod.fst (spL_n q9), rfl⟩, X, hR, ok_mono hO hT5⟩) (Nat.le_of_ble_eq_true rfl) (Nat.le_of_ble_eq_true rfl)
  refine W.widen (k := 1) (n := 6) (Nat.le_of_ble_eq_true rfl) (Nat.le_of_ble_eq_true rfl) ?_
  obtain ⟨rfl, j, hj, rfl, rfl⟩ := p2
  have y5_122 := hR.1 _ _ _ _ (t5 (j := j) hj)
  refine mq_get (ci := 8) (v := va_rf (oMap (lWs (aE S j)) (ad 12 j 0))) (C := RX3) (T := TX3) (N := 5) hx hb hts nX3 hown hK hM y5_122 rfl 2 (by decide) w0 (fun _ h9 => h9) rfl dX7_explain_5 ?_
  refine mq_astore_nq (lv' := [(2, va_rf (oMap (lWs (aE S j)) (ad 12 j 0))), (0, .ref (ad 0 0 0)), (1, .int (nI j))]) hx hb dX7_explain_8 rfl hl (by decide) rfl (fun ls hl => ?_)
  refine mq_aload_nq hx hb dX7_explain_9 rfl (lv_at hl 0 rfl) ?_
  refine mq_ifnonnullq (tgt := 23) hx hb dX7_explain_10 (by decide) (fun c_10 => ?_) (fun a9 c_10 => ?_)
  · replace c_10 := oMap_none c_10
    rw [c_10] at hl
    obtain ⟨sa, hsa⟩ := mq_str hZ (own := RX7) (k := 219) (tx := "no step was wrong") (by decide +kernel)
    refine vx_throwS (A := A) (own := RX7) (cls := "java/lang/IllegalStateException") (text := "no step was wrong") (names := ["java/lang/RuntimeException", "java/lang/Exception"]) (ik := 36) (is := 219) (ic := 40) hx hb hfl hown (by decide +kernel) (by decide +kernel) w1 w2 hsa (mq_hat hZ (fun w h => hts w (List.mem_cons_of_mem _ (List.mem_append_left _ (List.mem_append_left _ (List.mem_append_left _ (List.mem_append_right _ h)))))) (by decide +kernel)) (by decide +kernel) hZ.1.1 hZ.1.2 hS (by rw [hml]; exact hl.1) dX7_explain_13 dX7_explain_16 dX7_explain_17 dX7_explain_19 dX7_explain_22 (fun x hx => (ht9 x hx).elim) (Nat.le_of_ble_eq_true rfl) (Nat.le_of_ble_eq_true rfl) (Nat.le_of_ble_eq_true rfl) (Nat.le_of_ble_eq_true rfl) hlocks (fun t9 hv9 hz9 hq9 => mq_thrown hM hS hz9 hq9 (⟨Or.inr (Or.inl ⟨congrArg Prod.fst (show spExpl S (nI j) = ((2, 0) : Nat × Int32) from (spL_y hj hl4).trans (by rw [c_10]; rfl)), rfl⟩), X, hR, ok_mono hO hT5⟩)) hS.2.2 (Nat.le_of_ble_eq_true rfl) (Nat.le_of_ble_eq_true rfl)
  · obtain ⟨w9, c_10⟩ := oMap_some c_10
    rw [c_10] at hl
    have hX := WR_xpC (g := f) hR
    have hD := WR_xpD (g := f) hR
    have y3_123 := hR.1 _ _ _ _ (t3)
    have y12_124 := hR.1 _ _ _ _ (t12 (j := j) hj c_10)
    have y13_125 := hR.1 _ _ _ _ (t13 (j := j) hj c_10)
    have y14_126 := hR.1 _ _ _ _ (t14 (j := j) hj c_10)
    refine lv_aload_n hx hb dX7_explain_23 rfl (lv_at hl 1 rfl) ?_
    refine mq_get (ci := 12) (v := .ref (ad 3 0 0)) (C := RX7) (T := TX7) (N := 6) hx hb hts nX7 hown hK hM y0_127 rfl 2 (by decide) w3 (fun _ h9 => h9) rfl dX7_explain_24 ?_
    refine lv_aload_n hx hb dX7_explain_27 rfl (lv_at hl 0 rfl) ?_
    refine mq_calli (va_runV (As := [.ref (ad 12 j 0)]) (rest := []) ⟨hx, hb, hml, hown, hts⟩ (c_X2_explanationOf l G A f (ad 3 0 0) (ad 12 j 0) (ad 15 0 0) (ad 16 0 0) (ad 13 j 0) (ad 14 j 0) (xB X) (xSo X) (fun k => ad 17 k 0) (fun k => ad 18 k 0) w9.1.1 w9.1.2.1 w9.1.2.2.1 w9.1.2.2.2 w9.2.1 w9.2.2.1 w9.2.2.2.1 w9.2.2.2.2) (cwV 1 hts gX7_explain_X2_explanationOf rfl rfl rfl (by decide +kernel) ⟨Nat.le_of_ble_eq_true rfl, Nat.le_of_ble_eq_true rfl⟩) (mq_preV hK hZ hS hA hM (q := (RX2, TX2, 4)) y3_123 rfl (⟨hX, hD, y12_124, y13_125, y14_126, fun k hk => ⟨RR.ne hR (t13 hj c_10) (t17 hk) rfl (by simp), RR.ne hR (t13 hj c_10) (t18 hk) rfl (by simp)⟩, fun k hk => ⟨RR.ne hR (t14 hj c_10) (t17 hk) rfl (by simp), RR.ne hR (t14 hj c_10) (t18 hk) rfl (by simp)⟩⟩) _) rfl rfl hl.1 rfl (lv_room (Nat.le_of_ble_eq_true rfl)) dX7_explain_28 ⟨Nat.le_of_ble_eq_true rfl, Nat.le_of_ble_eq_true rfl⟩) hS (fun r28 g28 H locs p28 hM hS => ?_)
    refine W.widen (k := 1) (n := 6) (Nat.le_of_ble_eq_true rfl) (Nat.le_of_ble_eq_true rfl) ?_
    obtain ⟨rfl, hX9, hF9⟩ := p28
    obtain ⟨r9, k9, hR9⟩ := WR_xp hR hX9 hF9
    have hs9 := sk_lt w9.2 3 w9.1 0 0 (by decide) (by decide)
    have hO9 : cOK S (sXp X (sk w9.2 3 w9.1 0 0) (some (ad 14 j 0)) r9 k9) (T + 1) := ⟨(ok_mono hO hT5).1, (ok_mono hO hT5).2.1, (ok_mono hO hT5).2.2.1, (ok_mono hO hT5).2.2.2.1, (ok_mono hO hT5).2.2.2.2.1, hs9⟩
    refine lv_istore_n (lv' := [(3, .int (du (sk w9.2 3 w9.1 0 0))), (2, .ref (ad 12 j 0)), (0, .ref (ad 0 0 0)), (1, .int (nI j))]) hx hb dX7_explain_31 rfl hl (by decide) rfl (fun ls hl => ?_)
    refine lv_iload_n hx hb dX7_explain_32 rfl (lv_at hl 0 rfl) ?_
    refine lv_iconst (v := (-1)) hx hb dX7_explain_33 (by decide) ?_
    refine lv_icmp_ne (tgt := 47) hx hb dX7_explain_34 (by decide) (fun c_34 => ?_) (fun c_34 => ?_)
    · replace c_34 : ¬ du (sk w9.2 3 w9.1 0 0) = (-1) := c_34
      rw [du_m1 (by omega)] at c_34
      refine lv_iload_n hx hb dX7_explain_47 rfl (lv_at hl 0 rfl) ?_
      refine vx_ret ?_
      refine W.widen (k := 3) (n := 18) (Nat.le_of_ble_eq_true rfl) (Nat.le_of_ble_eq_true rfl) ?_
      exact mq_iret (v := du (sk w9.2 3 w9.1 0 0)) hx hb hr hlocks hM hS (⟨_, (spL_y hj hl4).trans (by rw [c_10]; exact (if_neg c_34).trans (by rw [du_nI c_34])), hR9, hO9⟩) dX7_explain_48
    · replace c_34 : du (sk w9.2 3 w9.1 0 0) = (-1) := c_34
      rw [du_m1 (by omega)] at c_34
      obtain ⟨sa, hsa⟩ := mq_str hZ (own := RX7) (k := 225) (tx := "no explanation") (by decide +kernel)
      refine vn_throwS (A := A) (own := RX7) (cls := "java/util/NoSuchElementException") (text := "no explanation") (names := ["java/lang/RuntimeException", "java/lang/Exception"]) (ik := 129) (is := 225) (ic := 133) hx hb hfl hown (by decide +kernel) (by decide +kernel) w4 w5 hsa (mq_hat hZ (fun w h => hts w (List.mem_cons_of_mem _ (List.mem_append_left _ (List.mem_append_left _ (List.mem_append_right _ h))))) (by decide +kernel)) (by decide +kernel) hZ.1.1 hZ.1.2 hS (by rw [hml]; exact hl.1) dX7_explain_37 dX7_explain_40 dX7_explain_41 dX7_explain_43 dX7_explain_46 (fun x hx => (ht9 x hx).elim) (Nat.le_of_ble_eq_true rfl) (Nat.le_of_ble_eq_true rfl) (Nat.le_of_ble_eq_true rfl) (Nat.le_of_ble_eq_true rfl) hlocks (fun t9 hv9 hz9 hq9 => mq_thrown hM hS hz9 hq9 (⟨Or.inr (Or.inr ⟨congrArg Prod.fst (show spExpl S (nI j) = ((3, 0) : Nat × Int32) from (spL_y hj hl4).trans (by rw [c_10]; exact if_pos c_34)), rfl⟩), _, hR9, hO9⟩)) hS.2.2 (Nat.le_of_ble_eq_true rfl) (Nat.le_of_ble_eq_true rfl)

theorem sLe_sLe {S : AT} {j : Nat} {v : leT} {a : Option exT} : sLe (sLe S j v) j (a, lWs (aE (sLe S j v) j), lMd (aE (sLe S j v) j)) = sLe S j (a, lWs v, lMd v) := by
  show (S.1, aS S, aM S, fU (fU (aE S) j v) j (a, lWs (fU (aE S) j v j), lMd (fU (aE S) j v j))) = (S.1, aS S, aM S, fU (aE S) j (a, lWs v, lMd v))
  rw [fU_s]
  congr 3
  funext j'
  unfold fU
  split <;> rfl
theorem ok_le0 {S : AT} {X : CX} {T j : Nat} (h : cOK S X T) (hj : j < aL S) : cOK (s1Of S j) X T := by
  refine ⟨h.1, h.2.1, h.2.2.1, h.2.2.2.1, fun j' hj' => ?_, h.2.2.2.2.2⟩
  by_cases e : j' = j
  · subst e
    show (∀ e, lEx (fU (aE S) j' _ j') = some e → _) ∧ riOK (lMd (fU (aE S) j' _ j')) _ _ ∧ (lMd (fU (aE S) j' _ j')).length ≤ _
    rw [fU_s]
    exact ⟨fun e q => (by cases q), (h.2.2.2.2.1 j' hj').2⟩
  · show (∀ e, lEx (fU (aE S) j _ j') = some e → _) ∧ riOK (lMd (fU (aE S) j _ j')) _ _ ∧ (lMd (fU (aE S) j _ j')).length ≤ _
    rw [fU_n e]
    exact h.2.2.2.2.1 j' hj'

set_option maxHeartbeats 4000000 in
set_option maxRecDepth 100000 in
theorem c_X7_step (l : Launch) (hfl : l.stackTraces = false) (G : mq_G) (A : Nat → Prop) (f : mq_F) (ad : AD) (S : AT) (X : CX) (S2 : AT) (Y : MX) (O : OX) (T : Nat) (ua va vb vc vd : Int32) : vx_Met l yX7_step wsX7_step ({ frames := 8, cells := 9, slots := 42, locals := 141 } : Room) (mq_Pc G A f (WR G f ad S X S2 Y O ∧ cOK S X T ∧ T < 512) [.ref (ad 0 0 0), .int ua, .int va, .int vb, .int vc, .int vd]) (mq_Qi G A (fun r g => ∃ S9 X9 ad9, spStep S ua va vb vc vd = (0, r, S9) ∧ WR G g ad9 S9 X9 S2 Y O ∧ cOK S9 X9 (T + 1) ∧ adK ad ad9)) (mq_X G A (fun E g => f = g ∧ ((spStep S ua va vb vc vd).1 = 1 ∧ E = "java/lang/IndexOutOfBoundsException" ∨ (spStep S ua va vb vc vd).1 = 2 ∧ E = "java/lang/IllegalArgumentException" ∨ (spStep S ua va vb vc vd).1 = 3 ∧ E = "java/lang/IllegalStateException"))) 9 42 A := by
  refine vx_ofW (cc := cX7_step) (maxL := 9) (ret := (some .char)) (by decide) rfl ?_
  intro p e s m args below meth c s₁ B hml ht9 hv
  obtain ⟨rfl, ⟨hK, hZ, hM, hA⟩, hp⟩ := hv
  have hx := B.exec
  have hb := B.bytes
  have hr := B.returns
  have hts := atoms_spec (ws := wsX7_step) B.pre
  have hown : s.vm.findClass RX7 = some m.cls := findClass_of_methodNamed B.named
  have hlocks := B.notSynchronized
  have hS : va_S A s.heap s.heap [] := va_S.rf
  have hl := lv_entry ([.ref (ad 0 0 0), .int ua, .int va, .int vb, .int vc, .int vd]) (n := 9) (Nat.le_of_ble_eq_true rfl)
  rw [lg_entry_eq]
  generalize (lg_sl ([.ref (ad 0 0 0), .int ua, .int va, .int vb, .int vc, .int vd]) ++ List.replicate (9 - (lg_sl ([.ref (ad 0 0 0), .int ua, .int va, .int vb, .int vc, .int vd])).length) Slot.unset).toArray = ls at hl ⊢
  have hl : lv_has ls 9 [(0, .ref (ad 0 0 0)), (1, .int ua), (2, .int va), (3, .int vb), (4, .int vc), (5, .int vd)] := hl
  have w0 := hts (.classLink RX7 183 RX0) (List.mem_of_getElem? (i := 1) rfl)
  have w1 := hts (.instantiable RX0 4) (List.mem_of_getElem? (i := 2) rfl)
  have w2 := hts (.initialized RX0) (List.mem_of_getElem? (i := 3) rfl)
  have w3 := hts (.methodLink RX7 191 yX0_init) (List.mem_of_getElem? (i := 31) rfl)
  have w4 := hts (.instanceMethod yX0_init) (List.mem_of_getElem? (i := 32) rfl)
  have w5 := hts (.fieldLink RX7 178 "Tutorlight$Exercise" "equation" "LTutorlight$Equation;") (List.mem_of_getElem? (i := 4) rfl)
  have w6 := hts (.fieldLink RX7 168 "Tutorlight$Learner" "exercise" "LTutorlight$Exercise;") (List.mem_of_getElem? (i := 10) rfl)
  have w7 := hts (.fieldLink RX7 213 "Tutorlight$Exercise" "skill" "I") (List.mem_of_getElem? (i := 11) rfl)
  have w8 := hts (.fieldLink RX7 198 "Tutorlight$Exercise" "wrongSteps" "I") (List.mem_of_getElem? (i := 5) rfl)
  have w9 := hts (.classLink RX7 201 RX6) (List.mem_of_getElem? (i := 6) rfl)
  have w10 := hts (.instantiable RX6 2) (List.mem_of_getElem? (i := 7) rfl)
  have w11 := hts (.initialized RX6) (List.mem_of_getElem? (i := 8) rfl)
  have w12 := hts (.methodLink RX7 203 yX6_init) (List.mem_of_getElem? (i := 45) rfl)
  have w13 := hts (.instanceMethod yX6_init) (List.mem_of_getElem? (i := 46) rfl)
  have w14 := hts (.fieldLink RX7 206 "Tutorlight$Learner" "wrongStep" "LTutorlight$WrongStep;") (List.mem_of_getElem? (i := 9) rfl)
  have nX0 : ∀ w ∈ wsX00, w ∈ wsX7_step := fun _ h => List.mem_cons_of_mem _ (List.mem_append_left _ (List.mem_append_left _ (List.mem_append_left _ (List.mem_append_left _ (List.mem_append_left _ (List.mem_append_left _ (List.mem_append_left _ (List.mem_append_left _ (List.mem_append_left _ (List.mem_append_left _ (List.mem_append_left _ (List.mem_append_right _ h))))))))))))
  have nX1 : ∀ w ∈ wsX10, w ∈ wsX7_step := fun _ h => List.mem_cons_of_mem _ (List.mem_append_left _ (List.mem_append_left _ (List.mem_append_left _ (List.mem_append_left _ (List.mem_append_left _ (List.mem_append_left _ (List.mem_append_left _ (List.mem_append_left _ (List.mem_append_left _ (List.mem_append_left _ (List.mem_append_right _ h)))))))))))
  have nX3 : ∀ w ∈ wsX30, w ∈ wsX7_step := fun _ h => List.mem_cons_of_mem _ (List.mem_append_left _ (List.mem_append_left _ (List.mem_append_left _ (List.mem_append_left _ (List.mem_append_left _ (List.mem_append_left _ (List.mem_append_left _ (List.mem_append_left _ (List.mem_append_right _ h)))))))))
  have nX6 : ∀ w ∈ wsX60, w ∈ wsX7_step := fun _ h => List.mem_cons_of_mem _ (List.mem_append_left _ (List.mem_append_left _ (List.mem_append_left _ (List.mem_append_left _ (List.mem_append_left _ (List.mem_append_left _ (List.mem_append_left _ (List.mem_append_left _ (List.mem_append_left _ (List.mem_append_right _ h))))))))))
  obtain ⟨hR, hO, hT5⟩ := hp
  obtain ⟨⟨hn, hl4, hd2, hT⟩, hsk, hma, hdc, hle, hxb⟩ := id hO
  have y0_131 := hR.1 _ _ _ _ (t0)
  refine lv_aload_n hx hb dX7_step_0 rfl (lv_at hl 0 rfl) ?_
  refine lv_iload_n hx hb dX7_step_1 rfl (lv_at hl 1 rfl) ?_
  refine mq_xcallq (vx_runV (As := [.int ua]) (rest := []) ⟨hx, hb, hml, hown, hts⟩ (c_X7_learnerAt l hfl G A f ad S X S2 Y O T ua) (cwV 1 hts gX7_step_X7_learnerAt rfl rfl rfl (by decide +kernel) ⟨Nat.le_of_ble_eq_true rfl, Nat.le_of_ble_eq_true rfl⟩) (mq_preV hK hZ hS hA hM (q := (RX7, TX7, 6)) y0_131 rfl (⟨hR, hO⟩) _) rfl rfl hl.1 rfl (lv_room (Nat.le_of_ble_eq_true rfl)) dX7_step_2 ⟨Nat.le_of_ble_eq_true rfl, Nat.le_of_ble_eq_true rfl⟩) hS (fun E ce q9 g2 H locs p2 hM hS hce hcv hcl => ?_) (fun r2 g2 H locs p2 hM hS => ?_)
  · obtain ⟨rfl, rfl, q9⟩ := p2
    exact mq_out (List.eq_nil_iff_forall_not_mem.mpr fun x hx => ht9 x hx) hlocks hce hcv hcl hM hS (⟨rfl, Or.inl (⟨congrArg Prod.fst (spL_n q9), rfl⟩)⟩) (Nat.le_of_ble_eq_true rfl) (Nat.le_of_ble_eq_true rfl)
  refine W.widen (k := 1) (n := 6) (Nat.le_of_ble_eq_true rfl) (Nat.le_of_ble_eq_true rfl) ?_
  obtain ⟨rfl, j, hj, rfl, rfl⟩ := p2
  refine lv_astore (lv' := [(6, .ref (ad 5 j 0)), (0, .ref (ad 0 0 0)), (1, .int (nI j)), (2, .int va), (3, .int vb), (4, .int vc), (5, .int vd)]) hx hb dX7_step_5 hl (by decide) rfl (fun ls hl => ?_)
  refine lv_iload_n hx hb dX7_step_7 rfl (lv_at hl 3 rfl) ?_
  refine mq_xcallv (vx_runS (As := [.int va]) (rest := []) ⟨hx, hb, hml, hown, hts⟩ (c_X7_checkTold l hfl G A f va) (va_cwS 1 hts gX7_step_X7_checkTold rfl rfl rfl (by decide +kernel) ⟨Nat.le_of_ble_eq_true rfl, Nat.le_of_ble_eq_true rfl⟩) (mq_preS hK hZ hS hA hM (trivial) _) rfl rfl hl.1 rfl (lv_room (Nat.le_of_ble_eq_true rfl)) dX7_step_8 ⟨Nat.le_of_ble_eq_true rfl, Nat.le_of_ble_eq_true rfl⟩) hS (fun E ce q9 g8 H locs p8 hM hS hce hcv hcl => ?_) (fun g8 H locs p8 hM hS => ?_)
  · obtain ⟨rfl, rfl, q9⟩ := p8
    exact mq_out (List.eq_nil_iff_forall_not_mem.mpr fun x hx => ht9 x hx) hlocks hce hcv hcl hM hS (⟨rfl, Or.inr (Or.inl (⟨congrArg Prod.fst (show spStep S (nI j) va vb vc vd = ((2, 0, S) : Nat × Int32 × AT) from (spL_y hj hl4).trans (if_neg (fun q => by simp only [Bool.and_eq_true, tld, decide_eq_true_eq] at q; exact q9 q.1))), rfl⟩))⟩) (Nat.le_of_ble_eq_true rfl) (Nat.le_of_ble_eq_true rfl)
  refine W.widen (k := 2) (n := 12) (Nat.le_of_ble_eq_true rfl) (Nat.le_of_ble_eq_true rfl) ?_
  obtain ⟨rfl, tva⟩ := p8
  refine lv_iload_n hx hb dX7_step_11 rfl (lv_at hl 4 rfl) ?_
  refine mq_xcallv (vx_runS (As := [.int vb]) (rest := []) ⟨hx, hb, hml, hown, hts⟩ (c_X7_checkTold l hfl G A f vb) (va_cwS 1 hts gX7_step_X7_checkTold rfl rfl rfl (by decide +kernel) ⟨Nat.le_of_ble_eq_true rfl, Nat.le_of_ble_eq_true rfl⟩) (mq_preS hK hZ hS hA hM (trivial) _) rfl rfl hl.1 rfl (lv_room (Nat.le_of_ble_eq_true rfl)) dX7_step_12 ⟨Nat.le_of_ble_eq_true rfl, Nat.le_of_ble_eq_true rfl⟩) hS (fun E ce q9 g12 H locs p12 hM hS hce hcv hcl => ?_) (fun g12 H locs p12 hM hS => ?_)
  · obtain ⟨rfl, rfl, q9⟩ := p12
    exact mq_out (List.eq_nil_iff_forall_not_mem.mpr fun x hx => ht9 x hx) hlocks hce hcv hcl hM hS (⟨rfl, Or.inr (Or.inl (⟨congrArg Prod.fst (show spStep S (nI j) va vb vc vd = ((2, 0, S) : Nat × Int32 × AT) from (spL_y hj hl4).trans (if_neg (fun q => by simp only [Bool.and_eq_true, tld, decide_eq_true_eq] at q; exact q9 q.2.1))), rfl⟩))⟩) (Nat.le_of_ble_eq_true rfl) (Nat.le_of_ble_eq_true rfl)
  refine W.widen (k := 3) (n := 18) (Nat.le_of_ble_eq_true rfl) (Nat.le_of_ble_eq_true rfl) ?_
  obtain ⟨rfl, tvb⟩ := p12
  refine lv_iload hx hb dX7_step_15 (lv_at hl 5 rfl) ?_
  refine mq_xcallv (vx_runS (As := [.int vc]) (rest := []) ⟨hx, hb, hml, hown, hts⟩ (c_X7_checkTold l hfl G A f vc) (va_cwS 1 hts gX7_step_X7_checkTold rfl rfl rfl (by decide +kernel) ⟨Nat.le_of_ble_eq_true rfl, Nat.le_of_ble_eq_true rfl⟩) (mq_preS hK hZ hS hA hM (trivial) _) rfl rfl hl.1 rfl (lv_room (Nat.le_of_ble_eq_true rfl)) dX7_step_17 ⟨Nat.le_of_ble_eq_true rfl, Nat.le_of_ble_eq_true rfl⟩) hS (fun E ce q9 g17 H locs p17 hM hS hce hcv hcl => ?_) (fun g17 H locs p17 hM hS => ?_)
  · obtain ⟨rfl, rfl, q9⟩ := p17
    exact mq_out (List.eq_nil_iff_forall_not_mem.mpr fun x hx => ht9 x hx) hlocks hce hcv hcl hM hS (⟨rfl, Or.inr (Or.inl (⟨congrArg Prod.fst (show spStep S (nI j) va vb vc vd = ((2, 0, S) : Nat × Int32 × AT) from (spL_y hj hl4).trans (if_neg (fun q => by simp only [Bool.and_eq_true, tld, decide_eq_true_eq] at q; exact q9 q.2.2.1))), rfl⟩))⟩) (Nat.le_of_ble_eq_true rfl) (Nat.le_of_ble_eq_true rfl)
  refine W.widen (k := 4) (n := 24) (Nat.le_of_ble_eq_true rfl) (Nat.le_of_ble_eq_true rfl) ?_
  obtain ⟨rfl, tvc⟩ := p17
  refine lv_iload hx hb dX7_step_20 (lv_at hl 6 rfl) ?_
  refine mq_xcallv (vx_runS (As := [.int vd]) (rest := []) ⟨hx, hb, hml, hown, hts⟩ (c_X7_checkTold l hfl G A f vd) (va_cwS 1 hts gX7_step_X7_checkTold rfl rfl rfl (by decide +kernel) ⟨Nat.le_of_ble_eq_true rfl, Nat.le_of_ble_eq_true rfl⟩) (mq_preS hK hZ hS hA hM (trivial) _) rfl rfl hl.1 rfl (lv_room (Nat.le_of_ble_eq_true rfl)) dX7_step_22 ⟨Nat.le_of_ble_eq_true rfl, Nat.le_of_ble_eq_true rfl⟩) hS (fun E ce q9 g22 H locs p22 hM hS hce hcv hcl => ?_) (fun g22 H locs p22 hM hS => ?_)
  · obtain ⟨rfl, rfl, q9⟩ := p22
    exact mq_out (List.eq_nil_iff_forall_not_mem.mpr fun x hx => ht9 x hx) hlocks hce hcv hcl hM hS (⟨rfl, Or.inr (Or.inl (⟨congrArg Prod.fst (show spStep S (nI j) va vb vc vd = ((2, 0, S) : Nat × Int32 × AT) from (spL_y hj hl4).trans (if_neg (fun q => by simp only [Bool.and_eq_true, tld, decide_eq_true_eq] at q; exact q9 q.2.2.2))), rfl⟩))⟩) (Nat.le_of_ble_eq_true rfl) (Nat.le_of_ble_eq_true rfl)
  refine W.widen (k := 5) (n := 30) (Nat.le_of_ble_eq_true rfl) (Nat.le_of_ble_eq_true rfl) ?_
  obtain ⟨rfl, tvd⟩ := p22
  refine lv_aload hx hb dX7_step_25 (lv_at hl 0 rfl) ?_
  refine mq_xcallq (vx_runS (As := [.ref (ad 5 j 0)]) (rest := []) ⟨hx, hb, hml, hown, hts⟩ (c_X7_exerciseOf l hfl G A f ad S X S2 Y O T j) (va_cwS 1 hts gX7_step_X7_exerciseOf rfl rfl rfl (by decide +kernel) ⟨Nat.le_of_ble_eq_true rfl, Nat.le_of_ble_eq_true rfl⟩) (mq_preS hK hZ hS hA hM (⟨hR, hO, hj⟩) _) rfl rfl hl.1 rfl (lv_room (Nat.le_of_ble_eq_true rfl)) dX7_step_27 ⟨Nat.le_of_ble_eq_true rfl, Nat.le_of_ble_eq_true rfl⟩) hS (fun E ce q9 g27 H locs p27 hM hS hce hcv hcl => ?_) (fun r27 g27 H locs p27 hM hS => ?_)
  · obtain ⟨rfl, rfl, q9⟩ := p27
    exact mq_out (List.eq_nil_iff_forall_not_mem.mpr fun x hx => ht9 x hx) hlocks hce hcv hcl hM hS (⟨rfl, Or.inr (Or.inr (⟨congrArg Prod.fst (show spStep S (nI j) va vb vc vd = ((3, 0, S) : Nat × Int32 × AT) from (spL_y hj hl4).trans ((if_pos (show (tld va && (tld vb && (tld vc && tld vd))) = true by simp only [Bool.and_eq_true, tld, decide_eq_true_eq]; exact ⟨tva, tvb, tvc, tvd⟩)).trans (by rw [q9]; rfl))), rfl⟩))⟩) (Nat.le_of_ble_eq_true rfl) (Nat.le_of_ble_eq_true rfl)
  refine W.widen (k := 6) (n := 36) (Nat.le_of_ble_eq_true rfl) (Nat.le_of_ble_eq_true rfl) ?_
  obtain ⟨rfl, e9, he9, rfl⟩ := p27
  obtain ⟨x1, x2, x3, x4, x5⟩ := (hle j hj).1 e9 he9
  have y10_128 := hR.1 _ _ _ _ (t10 (j := j) hj he9)
  have y11_129 := hR.1 _ _ _ _ (t11 (j := j) hj he9)
  have y5_130 := hR.1 _ _ _ _ (t5 (j := j) hj)
  refine lv_astore (lv' := [(7, .ref (ad 10 j 0)), (6, .ref (ad 5 j 0)), (0, .ref (ad 0 0 0)), (1, .int (nI j)), (2, .int va), (3, .int vb), (4, .int vc), (5, .int vd)]) hx hb dX7_step_30 hl (by decide) rfl (fun ls hl => ?_)
  refine mq_new (ci := 5) (fs := [.int 0, .int 0, .int 0, .int 0]) (C := RX0) (T := TX0) (N := 4) hx hb hts nX0 tyX0 tyX0_ok hown w0 w1 w2 hK hM hS hA rfl (fun j hj => by rcases (show j = 0 ∨ j = 1 ∨ j = 2 ∨ j = 3 by omega) with rfl | rfl | rfl | rfl <;> rfl) (Nat.le_of_ble_eq_true rfl) (Nat.le_of_ble_eq_true rfl) dX7_step_32 (fun q32 f_1 H hq32 e_2 hM hS => ?_)
  refine W.widen (k := 7) (n := 40) (Nat.le_of_ble_eq_true rfl) (Nat.le_of_ble_eq_true rfl) ?_
  have h_3 : f_1 (ad 0 0 0) = some (.inr (12, [.ref (ad 1 0 0), .ref (ad 2 0 0), .ref (ad 3 0 0), .int (nI (aN S)), .int (nI (aL S)), .int (nI (aD S))])) := mq_n e_2 y0_131 (mq_neN y0_131 hq32)
  have h_4 : f_1 (ad 10 j 0) = some (.inr (6, [.int (nI (e9.1)), .int (ex_sol (e9.2.1)), .ref (ad 11 j 0), .int (nI (e9.2.2.2.1)), .int (nI (e9.2.2.2.2))])) := mq_n e_2 y10_128 (mq_neN y10_128 hq32)
  have h_5 : f_1 (ad 11 j 0) = some (.inr (5, [.int e9.2.2.1.1, .int e9.2.2.1.2.1, .int e9.2.2.1.2.2.1, .int e9.2.2.1.2.2.2])) := mq_n e_2 y11_129 (mq_neN y11_129 hq32)
  have h_6 : f_1 (ad 5 j 0) = some (.inr (8, [.ref (ad 6 j 0), va_rf (oMap (lEx (aE S j)) (ad 10 j 0)), va_rf (oMap (lWs (aE S j)) (ad 12 j 0)), .ref (ad 9 j 0), .int (nI (xOl X j))])) := mq_n e_2 y5_130 (mq_neN y5_130 hq32)
  have h_7 : f_1 q32 = some (.inr (5, [.int 0, .int 0, .int 0, .int 0])) := mq_s e_2
  refine lv_dup hx hb dX7_step_35 rfl ?_
  refine lv_iload_n hx hb dX7_step_36 rfl (lv_at hl 4 rfl) ?_
  refine lv_iload_n hx hb dX7_step_37 rfl (lv_at hl 5 rfl) ?_
  refine lv_iload hx hb dX7_step_38 (lv_at hl 6 rfl) ?_
  refine lv_iload hx hb dX7_step_40 (lv_at hl 7 rfl) ?_
  refine mq_callv (va_runI (As := [.int va, .int vb, .int vc, .int vd]) (rest := [.ref q32]) ⟨hx, hb, hml, hown, hts⟩ (c_X0_init l G A f_1 q32 va vb vc vd) (cwI 4 hts gX7_step_X0_init rfl rfl rfl w2 w3 w4 rfl (by decide +kernel) ⟨Nat.le_of_ble_eq_true rfl, Nat.le_of_ble_eq_true rfl⟩) (mq_preS hK hZ hS hA hM (⟨(0, 0, 0, 0), h_7⟩) _) rfl rfl hl.1 rfl (lv_room (Nat.le_of_ble_eq_true rfl)) dX7_step_42 ⟨Nat.le_of_ble_eq_true rfl, Nat.le_of_ble_eq_true rfl⟩) hS (fun g42 H locs p42 hM hS => ?_)
  refine W.widen (k := 7) (n := 40) (Nat.le_of_ble_eq_true rfl) (Nat.le_of_ble_eq_true rfl) ?_
  have h_8 : g42 (ad 0 0 0) = some (.inr (12, [.ref (ad 1 0 0), .ref (ad 2 0 0), .ref (ad 3 0 0), .int (nI (aN S)), .int (nI (aL S)), .int (nI (aD S))])) := mq_n p42 h_3 (mq_neN y0_131 hq32)
  have h_9 : g42 (ad 10 j 0) = some (.inr (6, [.int (nI (e9.1)), .int (ex_sol (e9.2.1)), .ref (ad 11 j 0), .int (nI (e9.2.2.2.1)), .int (nI (e9.2.2.2.2))])) := mq_n p42 h_4 (mq_neN y10_128 hq32)
  have h_10 : g42 (ad 11 j 0) = some (.inr (5, [.int e9.2.2.1.1, .int e9.2.2.1.2.1, .int e9.2.2.1.2.2.1, .int e9.2.2.1.2.2.2])) := mq_n p42 h_5 (mq_neN y11_129 hq32)
  have h_11 : g42 (ad 5 j 0) = some (.inr (8, [.ref (ad 6 j 0), va_rf (oMap (lEx (aE S j)) (ad 10 j 0)), va_rf (oMap (lWs (aE S j)) (ad 12 j 0)), .ref (ad 9 j 0), .int (nI (xOl X j))])) := mq_n p42 h_6 (mq_neN y5_130 hq32)
  have h_12 : g42 q32 = some (.inr (5, [.int va, .int vb, .int vc, .int vd])) := mq_s p42
  refine lv_astore (lv' := [(8, .ref q32), (7, .ref (ad 10 j 0)), (6, .ref (ad 5 j 0)), (0, .ref (ad 0 0 0)), (1, .int (nI j)), (2, .int va), (3, .int vb), (4, .int vc), (5, .int vd)]) hx hb dX7_step_45 hl (by decide) rfl (fun ls hl => ?_)
  refine lv_aload hx hb dX7_step_47 (lv_at hl 0 rfl) ?_
  refine lv_aload hx hb dX7_step_49 (lv_at hl 1 rfl) ?_
  refine mq_get (ci := 6) (v := .ref (ad 11 j 0)) (C := RX1) (T := TX1) (N := 5) hx hb hts nX1 hown hK hM h_9 rfl 2 (by decide) w5 (fun _ h9 => h9) rfl dX7_step_51 ?_
  refine mq_calli (va_runV (As := [.ref (ad 11 j 0)]) (rest := []) ⟨hx, hb, hml, hown, hts⟩ (c_X0_hasSameSolutionsAs l G A g42 q32 (ad 11 j 0) va vb vc vd e9.2.2.1.1 e9.2.2.1.2.1 e9.2.2.1.2.2.1 e9.2.2.1.2.2.2) (cwV 1 hts gX7_step_X0_hasSameSolutionsAs rfl rfl rfl (by decide +kernel) ⟨Nat.le_of_ble_eq_true rfl, Nat.le_of_ble_eq_true rfl⟩) (mq_preV hK hZ hS hA hM (q := (RX0, TX0, 4)) h_12 rfl (⟨h_12, h_10⟩) _) rfl rfl hl.1 rfl (lv_room (Nat.le_of_ble_eq_true rfl)) dX7_step_54 ⟨Nat.le_of_ble_eq_true rfl, Nat.le_of_ble_eq_true rfl⟩) hS (fun r54 g54 H locs p54 hM hS => ?_)
  refine W.widen (k := 7) (n := 40) (Nat.le_of_ble_eq_true rfl) (Nat.le_of_ble_eq_true rfl) ?_
  obtain ⟨rfl, rfl⟩ := p54
  refine lv_if_ne (tgt := 93) hx hb dX7_step_57 (by decide) (fun c_57 => ?_) (fun c_57 => ?_)
  · replace c_57 : ¬ zb (eq_same (va, vb, vc, vd) e9.2.2.1) = 0 := c_57
    rw [zb_n0] at c_57
    refine lv_aload hx hb dX7_step_93 (lv_at hl 1 rfl) ?_
    refine lv_aload hx hb dX7_step_95 (lv_at hl 0 rfl) ?_
    refine mq_put (ci := 6) (v := .ref q32) (ty := .object "Tutorlight$Equation") (C := RX1) (T := TX1) (N := 5) (fs' := [.int (nI (e9.1)), .int (ex_sol (e9.2.1)), .ref q32, .int (nI (e9.2.2.2.1)), .int (nI (e9.2.2.2.2))]) hx hb hts nX1 tyX1 tyX1_ok nmX1 hown hK hM hS h_9 rfl 2 (by decide) w5 (fun _ h9 => h9) rfl (by decide +kernel) rfl rfl (Nat.le_of_ble_eq_true rfl) dX7_step_97 rfl (fun f_13 H locs e_14 hM hS => ?_)
    have h_15 : f_13 (ad 0 0 0) = some (.inr (12, [.ref (ad 1 0 0), .ref (ad 2 0 0), .ref (ad 3 0 0), .int (nI (aN S)), .int (nI (aL S)), .int (nI (aD S))])) := mq_n e_14 h_8 (mq_neO h_8 h_9 (by decide))
    have h_16 : f_13 (ad 11 j 0) = some (.inr (5, [.int e9.2.2.1.1, .int e9.2.2.1.2.1, .int e9.2.2.1.2.2.1, .int e9.2.2.1.2.2.2])) := mq_n e_14 h_10 (mq_neO h_10 h_9 (by decide))
    have h_17 : f_13 (ad 5 j 0) = some (.inr (8, [.ref (ad 6 j 0), va_rf (oMap (lEx (aE S j)) (ad 10 j 0)), va_rf (oMap (lWs (aE S j)) (ad 12 j 0)), .ref (ad 9 j 0), .int (nI (xOl X j))])) := mq_n e_14 h_11 (mq_neO h_11 h_9 (by decide))
    have h_18 : f_13 q32 = some (.inr (5, [.int va, .int vb, .int vc, .int vd])) := mq_n e_14 h_12 (Ne.symm (mq_neN y10_128 hq32))
    have h_19 : f_13 (ad 10 j 0) = some (.inr (6, [.int (nI (e9.1)), .int (ex_sol (e9.2.1)), .ref q32, .int (nI (e9.2.2.2.1)), .int (nI (e9.2.2.2.2))])) := mq_s e_14
    refine lv_aload hx hb dX7_step_100 (lv_at hl 0 rfl) ?_
    refine mq_calli (va_runV (As := []) (rest := []) ⟨hx, hb, hml, hown, hts⟩ (c_X0_isSolved l G A f_13 q32 va vb vc vd) (cwV 0 hts gX7_step_X0_isSolved rfl rfl rfl (by decide +kernel) ⟨Nat.le_of_ble_eq_true rfl, Nat.le_of_ble_eq_true rfl⟩) (mq_preV hK hZ hS hA hM (q := (RX0, TX0, 4)) h_18 rfl (h_18) _) rfl rfl hl.1 rfl (lv_room (Nat.le_of_ble_eq_true rfl)) dX7_step_102 ⟨Nat.le_of_ble_eq_true rfl, Nat.le_of_ble_eq_true rfl⟩) hS (fun r102 g102 H locs p102 hM hS => ?_)
    refine W.widen (k := 7) (n := 40) (Nat.le_of_ble_eq_true rfl) (Nat.le_of_ble_eq_true rfl) ?_
    obtain ⟨rfl, rfl⟩ := p102
    refine lv_if_ne (tgt := 111) hx hb dX7_step_105 (by decide) (fun c_105 => ?_) (fun c_105 => ?_)
    · replace c_105 : ¬ zb (decide (va = 1 ∧ vb = 0 ∧ vc = 0)) = 0 := c_105
      rw [zb_n0] at c_105
      refine lv_aload hx hb dX7_step_111 (lv_at hl 2 rfl) ?_
      refine lv_null hx hb dX7_step_113 ?_
      refine mq_put (ci := 8) (v := .null) (ty := .object "Tutorlight$Exercise") (C := RX3) (T := TX3) (N := 5) (fs' := [.ref (ad 6 j 0), .null, va_rf (oMap (lWs (aE S j)) (ad 12 j 0)), .ref (ad 9 j 0), .int (nI (xOl X j))]) hx hb hts nX3 tyX3 tyX3_ok nmX3 hown hK hM hS h_17 rfl 1 (by decide) w6 (fun _ h9 => h9) rfl (by decide +kernel) rfl rfl (Nat.le_of_ble_eq_true rfl) dX7_step_114 rfl (fun f_20 H locs e_21 hM hS => ?_)
      have h_22 : f_20 (ad 0 0 0) = some (.inr (12, [.ref (ad 1 0 0), .ref (ad 2 0 0), .ref (ad 3 0 0), .int (nI (aN S)), .int (nI (aL S)), .int (nI (aD S))])) := mq_n e_21 h_15 (mq_neO h_15 h_17 (by decide))
      have h_23 : f_20 (ad 11 j 0) = some (.inr (5, [.int e9.2.2.1.1, .int e9.2.2.1.2.1, .int e9.2.2.1.2.2.1, .int e9.2.2.1.2.2.2])) := mq_n e_21 h_16 (mq_neO h_16 h_17 (by decide))
      have h_24 : f_20 q32 = some (.inr (5, [.int va, .int vb, .int vc, .int vd])) := mq_n e_21 h_18 (Ne.symm (mq_neN y5_130 hq32))
      have h_25 : f_20 (ad 10 j 0) = some (.inr (6, [.int (nI (e9.1)), .int (ex_sol (e9.2.1)), .ref q32, .int (nI (e9.2.2.2.1)), .int (nI (e9.2.2.2.2))])) := mq_n e_21 h_19 (mq_neO h_19 h_17 (by decide))
      have h_26 : f_20 (ad 5 j 0) = some (.inr (8, [.ref (ad 6 j 0), .null, va_rf (oMap (lWs (aE S j)) (ad 12 j 0)), .ref (ad 9 j 0), .int (nI (xOl X j))])) := mq_s e_21
      have hR1 := WR_rt hR (va, vb, vc, vd) q32 hj he9 hq32 (by rw [p42, e_2, mq_uu]) e_14
      have hR2 : WR G f_20 (adU ad 11 j 0 q32) (s1Of S j) X S2 Y O := by have r9 := WR_no (j := j) (g := f_20) hR1 hj (by rw [e_21]; show _ = mq_up _ (ad 5 j 0) (cLe _ _ (oMap (lWs (fU (aE S) j _ j)) _) _ _); rw [fU_s]; rfl); show RR _ _ (cT G _ (s1Of S j) X S2 Y O); have e8 : sLe (sLe S j (some (e9.1, e9.2.1, (va, vb, vc, vd), e9.2.2.2.1, e9.2.2.2.2), lWs (aE S j), lMd (aE S j))) j (none, lWs (aE (sLe S j (some (e9.1, e9.2.1, (va, vb, vc, vd), e9.2.2.2.1, e9.2.2.2.2), lWs (aE S j), lMd (aE S j))) j), lMd (aE (sLe S j (some (e9.1, e9.2.1, (va, vb, vc, vd), e9.2.2.2.1, e9.2.2.2.2), lWs (aE S j), lMd (aE S j))) j)) = s1Of S j := sLe_sLe; rw [e8] at r9; exact r9
      have hO2 : cOK (s1Of S j) X T := ok_le0 hO hj
      have hc10 := h_25
      refine lv_aload_n hx hb dX7_step_117 rfl (lv_at hl 3 rfl) ?_
      refine lv_aload hx hb dX7_step_118 (lv_at hl 2 rfl) ?_
      refine lv_aload hx hb dX7_step_120 (lv_at hl 1 rfl) ?_
      refine mq_get (ci := 6) (v := .int (nI (e9.1))) (C := RX1) (T := TX1) (N := 5) hx hb hts nX1 hown hK hM h_25 rfl 0 (by decide) w7 (fun _ h9 => h9) rfl dX7_step_122 ?_
      refine lv_aload hx hb dX7_step_125 (lv_at hl 1 rfl) ?_
      refine mq_calli (va_runV (As := []) (rest := [.int (nI (e9.1)), .ref (ad 5 j 0), .ref (ad 0 0 0)]) ⟨hx, hb, hml, hown, hts⟩ (c_X1_isFaultless l G A f_20 (ad 10 j 0) (nI e9.1) (ex_sol e9.2.1) (nI e9.2.2.2.1) (nI e9.2.2.2.2) q32) (cwV 0 hts gX7_step_X1_isFaultless rfl rfl rfl (by decide +kernel) ⟨Nat.le_of_ble_eq_true rfl, Nat.le_of_ble_eq_true rfl⟩) (mq_preV hK hZ hS hA hM (q := (RX1, TX1, 5)) h_25 rfl (h_25) _) rfl rfl hl.1 rfl (lv_room (Nat.le_of_ble_eq_true rfl)) dX7_step_127 ⟨Nat.le_of_ble_eq_true rfl, Nat.le_of_ble_eq_true rfl⟩) hS (fun r127 g127 H locs p127 hM hS => ?_)
      refine W.widen (k := 7) (n := 40) (Nat.le_of_ble_eq_true rfl) (Nat.le_of_ble_eq_true rfl) ?_
      obtain ⟨rfl, rfl⟩ := p127
      rw [show decide (nI e9.2.2.2.1 = 0 ∧ nI e9.2.2.2.2 = 0) = decide (e9.2.2.2.1 = 0 ∧ e9.2.2.2.2 = 0) from decide_eq_decide.mpr (by rw [nI_z (by omega), nI_z (by omega)])]
      refine mq_callv (va_runV (As := [.ref (ad 5 j 0), .int (nI (e9.1)), .int (zb (decide (e9.2.2.2.1 = 0 ∧ e9.2.2.2.2 = 0)))]) (rest := []) ⟨hx, hb, hml, hown, hts⟩ (c_X7_noteAnswer l G A f_20 (adU ad 11 j 0 q32) (s1Of S j) X S2 Y O T j e9.1 (decide (e9.2.2.2.1 = 0 ∧ e9.2.2.2.2 = 0))) (cwV 3 hts gX7_step_X7_noteAnswer rfl rfl rfl (by decide +kernel) ⟨Nat.le_of_ble_eq_true rfl, Nat.le_of_ble_eq_true rfl⟩) (mq_preV hK hZ hS hA hM (q := (RX7, TX7, 6)) h_22 rfl (⟨hR2, hO2, hj, x1, hT5⟩) _) rfl rfl hl.1 rfl (lv_room (Nat.le_of_ble_eq_true rfl)) dX7_step_130 ⟨Nat.le_of_ble_eq_true rfl, Nat.le_of_ble_eq_true rfl⟩) hS (fun g130 H locs p130 hM hS => ?_)
      refine W.widen (k := 7) (n := 40) (Nat.le_of_ble_eq_true rfl) (Nat.le_of_ble_eq_true rfl) ?_
      have hO3 := ok_note (z := decide (e9.2.2.2.1 = 0 ∧ e9.2.2.2.2 = 0)) hO2 hT5 hj x1
      refine lv_bipush (v := 115) hx hb dX7_step_133 (by decide) ?_
      refine vx_ret ?_
      refine W.widen (k := 9) (n := 42) (Nat.le_of_ble_eq_true rfl) (Nat.le_of_ble_eq_true rfl) ?_
      exact mq_zret (v := 115) hx hb hr (rfl) hlocks hM hS (⟨_, _, _, (spL_y hj hl4).trans ((if_pos (show (tld va && (tld vb && (tld vc && tld vd))) = true by simp only [Bool.and_eq_true, tld, decide_eq_true_eq]; exact ⟨tva, tvb, tvc, tvd⟩)).trans (by rw [he9]; exact (if_pos c_57).trans (if_pos (by rw [decide_eq_true_eq] at c_105; exact c_105)))), p130, hO3, ⟨rfl, rfl, rfl, rfl⟩⟩) dX7_step_135
    · replace c_105 : zb (decide (va = 1 ∧ vb = 0 ∧ vc = 0)) = 0 := c_105
      rw [zb_0] at c_105
      refine lv_bipush (v := 102) hx hb dX7_step_108 (by decide) ?_
      refine vx_ret ?_
      refine W.widen (k := 9) (n := 42) (Nat.le_of_ble_eq_true rfl) (Nat.le_of_ble_eq_true rfl) ?_
      exact mq_zret (v := 102) hx hb hr (rfl) hlocks hM hS (⟨_, X, _, (spL_y hj hl4).trans ((if_pos (show (tld va && (tld vb && (tld vc && tld vd))) = true by simp only [Bool.and_eq_true, tld, decide_eq_true_eq]; exact ⟨tva, tvb, tvc, tvd⟩)).trans (by rw [he9]; exact (if_pos c_57).trans (if_neg (by rw [decide_eq_false_iff_not] at c_105; exact c_105)))), WR_rt hR (va, vb, vc, vd) q32 hj he9 hq32 (by rw [p42, e_2, mq_uu]) e_14, ok_le hO hT5 hj (fun e q => by cases q; exact ⟨x1, x2, (eq_same_ok x3 (by rw [ex_solI]; omega) (fun z hz => by simp only [List.mem_cons, List.not_mem_nil, or_false] at hz; rcases hz with rfl | rfl | rfl | rfl; exact tva; exact tvb; exact tvc; exact tvd) c_57), by show e9.2.2.2.1 ≤ T + 1; omega, by show e9.2.2.2.2 ≤ T + 1; omega⟩), ⟨rfl, rfl, rfl, rfl⟩⟩) dX7_step_110
  · replace c_57 : zb (eq_same (va, vb, vc, vd) e9.2.2.1) = 0 := c_57
    rw [zb_0] at c_57
    refine lv_aload hx hb dX7_step_60 (lv_at hl 1 rfl) ?_
    refine lv_dup hx hb dX7_step_62 rfl ?_
    refine mq_get (ci := 6) (v := .int (nI (e9.2.2.2.1))) (C := RX1) (T := TX1) (N := 5) hx hb hts nX1 hown hK hM h_9 rfl 3 (by decide) w8 (fun _ h9 => h9) rfl dX7_step_63 ?_
    refine lv_iconst (v := 1) hx hb dX7_step_66 (by decide) ?_
    refine lv_iadd hx hb dX7_step_67 ?_
    rw [show (nI (e9.2.2.2.1)) + 1 = nI (e9.2.2.2.1 + 1) from nI_add _ _]
    refine mq_put (ci := 6) (v := .int (nI (e9.2.2.2.1 + 1))) (ty := .int) (C := RX1) (T := TX1) (N := 5) (fs' := [.int (nI (e9.1)), .int (ex_sol (e9.2.1)), .ref (ad 11 j 0), .int (nI (e9.2.2.2.1 + 1)), .int (nI (e9.2.2.2.2))]) hx hb hts nX1 tyX1 tyX1_ok nmX1 hown hK hM hS h_9 rfl 3 (by decide) w8 (fun _ h9 => h9) rfl (by decide +kernel) rfl rfl (Nat.le_of_ble_eq_true rfl) dX7_step_68 rfl (fun f_27 H locs e_28 hM hS => ?_)
    have h_29 : f_27 (ad 0 0 0) = some (.inr (12, [.ref (ad 1 0 0), .ref (ad 2 0 0), .ref (ad 3 0 0), .int (nI (aN S)), .int (nI (aL S)), .int (nI (aD S))])) := mq_n e_28 h_8 (mq_neO h_8 h_9 (by decide))
    have h_30 : f_27 (ad 11 j 0) = some (.inr (5, [.int e9.2.2.1.1, .int e9.2.2.1.2.1, .int e9.2.2.1.2.2.1, .int e9.2.2.1.2.2.2])) := mq_n e_28 h_10 (mq_neO h_10 h_9 (by decide))
    have h_31 : f_27 (ad 5 j 0) = some (.inr (8, [.ref (ad 6 j 0), va_rf (oMap (lEx (aE S j)) (ad 10 j 0)), va_rf (oMap (lWs (aE S j)) (ad 12 j 0)), .ref (ad 9 j 0), .int (nI (xOl X j))])) := mq_n e_28 h_11 (mq_neO h_11 h_9 (by decide))
    have h_32 : f_27 q32 = some (.inr (5, [.int va, .int vb, .int vc, .int vd])) := mq_n e_28 h_12 (Ne.symm (mq_neN y10_128 hq32))
    have h_33 : f_27 (ad 10 j 0) = some (.inr (6, [.int (nI (e9.1)), .int (ex_sol (e9.2.1)), .ref (ad 11 j 0), .int (nI (e9.2.2.2.1 + 1)), .int (nI (e9.2.2.2.2))])) := mq_s e_28
    refine lv_aload hx hb dX7_step_71 (lv_at hl 2 rfl) ?_
    refine mq_new (ci := 11) (fs := [.null, .null]) (C := RX6) (T := TX6) (N := 2) hx hb hts nX6 tyX6 tyX6_ok hown w9 w10 w11 hK hM hS hA rfl (fun j hj => by rcases (show j = 0 ∨ j = 1 by omega) with rfl | rfl <;> rfl) (Nat.le_of_ble_eq_true rfl) (Nat.le_of_ble_eq_true rfl) dX7_step_73 (fun q73 f_34 H hq73 e_35 hM hS => ?_)
    refine W.widen (k := 8) (n := 42) (Nat.le_of_ble_eq_true rfl) (Nat.le_of_ble_eq_true rfl) ?_
    have h_36 : f_34 (ad 0 0 0) = some (.inr (12, [.ref (ad 1 0 0), .ref (ad 2 0 0), .ref (ad 3 0 0), .int (nI (aN S)), .int (nI (aL S)), .int (nI (aD S))])) := mq_n e_35 h_29 (mq_neN h_29 hq73)
    have h_37 : f_34 (ad 11 j 0) = some (.inr (5, [.int e9.2.2.1.1, .int e9.2.2.1.2.1, .int e9.2.2.1.2.2.1, .int e9.2.2.1.2.2.2])) := mq_n e_35 h_30 (mq_neN h_30 hq73)
    have h_38 : f_34 (ad 5 j 0) = some (.inr (8, [.ref (ad 6 j 0), va_rf (oMap (lEx (aE S j)) (ad 10 j 0)), va_rf (oMap (lWs (aE S j)) (ad 12 j 0)), .ref (ad 9 j 0), .int (nI (xOl X j))])) := mq_n e_35 h_31 (mq_neN h_31 hq73)
    have h_39 : f_34 q32 = some (.inr (5, [.int va, .int vb, .int vc, .int vd])) := mq_n e_35 h_32 (mq_neN h_32 hq73)
    have h_40 : f_34 (ad 10 j 0) = some (.inr (6, [.int (nI (e9.1)), .int (ex_sol (e9.2.1)), .ref (ad 11 j 0), .int (nI (e9.2.2.2.1 + 1)), .int (nI (e9.2.2.2.2))])) := mq_n e_35 h_33 (mq_neN h_33 hq73)
    have h_41 : f_34 q73 = some (.inr (11, [.null, .null])) := mq_s e_35
    refine lv_dup hx hb dX7_step_76 rfl ?_
    refine lv_aload hx hb dX7_step_77 (lv_at hl 1 rfl) ?_
    refine mq_get (ci := 6) (v := .ref (ad 11 j 0)) (C := RX1) (T := TX1) (N := 5) hx hb hts nX1 hown hK hM h_40 rfl 2 (by decide) w5 (fun _ h9 => h9) rfl dX7_step_79 ?_
    refine lv_aload hx hb dX7_step_82 (lv_at hl 0 rfl) ?_
    refine mq_callv (va_runI (As := [.ref (ad 11 j 0), .ref q32]) (rest := [.ref q73, .ref (ad 5 j 0)]) ⟨hx, hb, hml, hown, hts⟩ (c_X6_init l G A f_34 q73 (ad 11 j 0) q32) (cwI 2 hts gX7_step_X6_init rfl rfl rfl w11 w12 w13 rfl (by decide +kernel) ⟨Nat.le_of_ble_eq_true rfl, Nat.le_of_ble_eq_true rfl⟩) (mq_preS hK hZ hS hA hM (h_41) _) rfl rfl hl.1 rfl (lv_room (Nat.le_of_ble_eq_true rfl)) dX7_step_84 ⟨Nat.le_of_ble_eq_true rfl, Nat.le_of_ble_eq_true rfl⟩) hS (fun g84 H locs p84 hM hS => ?_)
    refine W.widen (k := 8) (n := 42) (Nat.le_of_ble_eq_true rfl) (Nat.le_of_ble_eq_true rfl) ?_
    have h_42 : g84 (ad 0 0 0) = some (.inr (12, [.ref (ad 1 0 0), .ref (ad 2 0 0), .ref (ad 3 0 0), .int (nI (aN S)), .int (nI (aL S)), .int (nI (aD S))])) := mq_n p84 h_36 (mq_neN h_29 hq73)
    have h_43 : g84 (ad 11 j 0) = some (.inr (5, [.int e9.2.2.1.1, .int e9.2.2.1.2.1, .int e9.2.2.1.2.2.1, .int e9.2.2.1.2.2.2])) := mq_n p84 h_37 (mq_neN h_30 hq73)
    have h_44 : g84 (ad 5 j 0) = some (.inr (8, [.ref (ad 6 j 0), va_rf (oMap (lEx (aE S j)) (ad 10 j 0)), va_rf (oMap (lWs (aE S j)) (ad 12 j 0)), .ref (ad 9 j 0), .int (nI (xOl X j))])) := mq_n p84 h_38 (mq_neN h_31 hq73)
    have h_45 : g84 q32 = some (.inr (5, [.int va, .int vb, .int vc, .int vd])) := mq_n p84 h_39 (mq_neN h_32 hq73)
    have h_46 : g84 (ad 10 j 0) = some (.inr (6, [.int (nI (e9.1)), .int (ex_sol (e9.2.1)), .ref (ad 11 j 0), .int (nI (e9.2.2.2.1 + 1)), .int (nI (e9.2.2.2.2))])) := mq_n p84 h_40 (mq_neN h_33 hq73)
    have h_47 : g84 q73 = some (.inr (11, [.ref (ad 11 j 0), .ref q32])) := mq_s p84
    refine mq_put (ci := 8) (v := .ref q73) (ty := .object "Tutorlight$WrongStep") (C := RX3) (T := TX3) (N := 5) (fs' := [.ref (ad 6 j 0), va_rf (oMap (lEx (aE S j)) (ad 10 j 0)), .ref q73, .ref (ad 9 j 0), .int (nI (xOl X j))]) hx hb hts nX3 tyX3 tyX3_ok nmX3 hown hK hM hS h_44 rfl 2 (by decide) w14 (fun _ h9 => h9) rfl (by decide +kernel) rfl rfl (Nat.le_of_ble_eq_true rfl) dX7_step_87 rfl (fun f_48 H locs e_49 hM hS => ?_)
    have h_50 : f_48 (ad 0 0 0) = some (.inr (12, [.ref (ad 1 0 0), .ref (ad 2 0 0), .ref (ad 3 0 0), .int (nI (aN S)), .int (nI (aL S)), .int (nI (aD S))])) := mq_n e_49 h_42 (mq_neO h_42 h_44 (by decide))
    have h_51 : f_48 (ad 11 j 0) = some (.inr (5, [.int e9.2.2.1.1, .int e9.2.2.1.2.1, .int e9.2.2.1.2.2.1, .int e9.2.2.1.2.2.2])) := mq_n e_49 h_43 (mq_neO h_43 h_44 (by decide))
    have h_52 : f_48 q32 = some (.inr (5, [.int va, .int vb, .int vc, .int vd])) := mq_n e_49 h_45 (Ne.symm (mq_neN y5_130 hq32))
    have h_53 : f_48 (ad 10 j 0) = some (.inr (6, [.int (nI (e9.1)), .int (ex_sol (e9.2.1)), .ref (ad 11 j 0), .int (nI (e9.2.2.2.1 + 1)), .int (nI (e9.2.2.2.2))])) := mq_n e_49 h_46 (mq_neO h_46 h_44 (by decide))
    have h_54 : f_48 q73 = some (.inr (11, [.ref (ad 11 j 0), .ref q32])) := mq_n e_49 h_47 (Ne.symm (mq_neN h_31 hq73))
    have h_55 : f_48 (ad 5 j 0) = some (.inr (8, [.ref (ad 6 j 0), va_rf (oMap (lEx (aE S j)) (ad 10 j 0)), .ref q73, .ref (ad 9 j 0), .int (nI (xOl X j))])) := mq_s e_49
    refine lv_bipush (v := 119) hx hb dX7_step_90 (by decide) ?_
    refine vx_ret ?_
    refine W.widen (k := 9) (n := 42) (Nat.le_of_ble_eq_true rfl) (Nat.le_of_ble_eq_true rfl) ?_
    exact mq_zret (v := 119) hx hb hr (rfl) hlocks hM hS (⟨_, X, _, (spL_y hj hl4).trans ((if_pos (show (tld va && (tld vb && (tld vc && tld vd))) = true by simp only [Bool.and_eq_true, tld, decide_eq_true_eq]; exact ⟨tva, tvb, tvc, tvd⟩)).trans (by rw [he9]; exact if_neg (by rw [c_57]; decide))), WR_ws hR (va, vb, vc, vd) q32 q73 hj he9 hq32 (by rw [p42, e_2, mq_uu]) e_28 hq73 e_35 p84 (by rw [he9] at e_49; exact e_49), ok_le hO hT5 hj (fun e q => by cases q; exact ⟨x1, x2, x3, by show e9.2.2.2.1 + 1 ≤ T + 1; omega, by show e9.2.2.2.2 ≤ T + 1; omega⟩), ⟨rfl, rfl, rfl, rfl⟩⟩) dX7_step_92
