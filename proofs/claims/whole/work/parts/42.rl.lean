/-! THE REFERENCE: note, answer -/
theorem getB_l {L : List Bool} {k : Bool} {i : Nat} (h : i < L.length) : (L ++ [k]).getD i false = L.getD i false := by rw [List.getD_eq_getElem?_getD, List.getD_eq_getElem?_getD, List.getElem?_append_left h]
theorem getB_r {L : List Bool} {k : Bool} : (L ++ [k]).getD L.length false = k := by rw [List.getD_eq_getElem?_getD, List.getElem?_append_right (Nat.le_refl _), Nat.sub_self]; rfl
theorem bo_row {G : mq_G} {L : List Bool} {z : Bool} : rf_of (L.length + 1) (fun i => if i = L.length then sB G z else sB G (L.getD i false)) = rBo G (L ++ [z]) := by
  unfold rBo
  rw [show (L ++ [z]).length = L.length + 1 by simp]
  funext i
  unfold rf_of
  by_cases hi : i < L.length + 1
  · rw [if_pos hi, if_pos hi]
    by_cases h2 : i = L.length
    · subst h2
      dsimp only
      rw [if_pos rfl, getB_r]
    · dsimp only
      rw [if_neg h2, getB_l (by omega)]
  · rw [if_neg hi, if_neg hi]
abbrev nsA (S : AT) (j k : Nat) (an : List Bool) : AT := sMa S j k (mOd (aM S j k), mTo (aM S j k), an, mOp (aM S j k), mRo (aM S j k), mDu (aM S j k))
abbrev vMid (S : AT) (j k : Nat) (z : Bool) : maT := (mv (aS S k).1 (aS S k).2.1 (aS S k).2.2.1 (mOd (aM S j k)) z, mTo (aM S j k), mAn (aM S j k) ++ [z], mOp (aM S j k), nRow z (mRo (aM S j k)), mDu (aM S j k))
abbrev nsMid (S : AT) (j k : Nat) (z : Bool) : AT := sMa S j k (vMid S j k z)
theorem ok_mid {S : AT} {X : CX} {T j k : Nat} {z : Bool} (h : cOK S X T) (hT : T < 512) (hj : j < aL S) (hk : k < aN S) : cOK (nsMid S j k z) (sW X j k (wr (xW X j k) (mAn (aM S j k)).length z)) (T + 1) := by
  obtain ⟨m1, m2, m3, m4, m5, m6, m7, m8⟩ := h.2.2.1 j k hj (by have := h.1.1; omega)
  obtain ⟨s1, s2, s3, s4⟩ := h.2.1 k hk
  refine ok_ma h hT hj hk ⟨fun _ _ e => fU2_n e, rfl, rfl, rfl⟩ ⟨mv_le m1 s3, m2, ?_, ?_, m5, ?_, fun _ => ?_, fun q => absurd hk (by omega)⟩ (Or.inl rfl)
  · show (mAn (aM S j k) ++ [z]).length ≤ T + 1
    rw [List.length_append]; simp; exact m3
  · show nRow z (mRo (aM S j k)) ≤ T + 1
    unfold nRow; split <;> omega
  · show tie (fU2 (xW X) j k _ j k) (mAn (aM S j k) ++ [z])
    rw [fU2_s]; exact tie_add z m6
  · show mv _ _ _ _ _ = mvs _ _ _ (mTo (aM S j k)) (mAn (aM S j k) ++ [z])
    rw [mvs_snoc, ← m7 hk]
theorem adU_id {ad : AD} {a j k : Nat} : adU ad a j k (ad a j k) = ad := by
  funext a' j' k'
  unfold adU
  split
  · rename_i h
    obtain ⟨rfl, rfl, rfl⟩ := h; rfl
  · rfl
theorem nc_le {n : Nat} (h : n < 512) : lcO (n + 1) (nc n) := by
  unfold lcO nc
  split <;> omega
theorem dw_S {r : Nat} : dw (r + 1) = 2 ^ min r 4 := by unfold dw; rw [if_neg (by omega), Nat.add_sub_cancel]
theorem p2_le {t : Nat} (h : t ≤ 4) : 2 ^ t ≤ 16 := Nat.pow_le_pow_right (n := 2) (by decide) h

set_option maxHeartbeats 2000000 in
theorem cT_n2 {G : mq_G} {ad : AD} {S : AT} {X : CX} {S2 : AT} {Y : MX} {O : OX} {j0 k0 : Nat} (an : List Bool) (mc : Int32) (cap q : Nat) (hc : cap ≠ 0) (hj : j0 < aL S2) (hk : k0 < 10) : cU (cU (cT G ad S X S2 Y O) 31 j0 k0 (cRf (G.2 8) cap (rBo G an))) 30 j0 k0 (cLs mc q an.length) = cT G (adU ad 31 j0 k0 q) S X (nsA S2 j0 k0 an) (yAn Y j0 k0 (mc, cap)) O := by
  funext a j k
  exact (match a with
    | 0 => by first | rfl | (simp [aN, aL, aD, aS, aM, aE, sTop, sSk, sMa, sLe, xW, xLn, xOl, xB, xSo, xR, xK, sW, sRi, sXp, lEx, lWs, lMd, cU, cT, adU, fU, fU2]; done)
    | 1 => by first | rfl | (simp [aN, aL, aD, aS, aM, aE, sTop, sSk, sMa, sLe, xW, xLn, xOl, xB, xSo, xR, xK, sW, sRi, sXp, lEx, lWs, lMd, cU, cT, adU, fU, fU2]; done)
    | 2 => by first | rfl | (simp [aN, aL, aD, aS, aM, aE, sTop, sSk, sMa, sLe, xW, xLn, xOl, xB, xSo, xR, xK, sW, sRi, sXp, lEx, lWs, lMd, cU, cT, adU, fU, fU2]; done)
    | 3 => by first | rfl | (simp [aN, aL, aD, aS, aM, aE, sTop, sSk, sMa, sLe, xW, xLn, xOl, xB, xSo, xR, xK, sW, sRi, sXp, lEx, lWs, lMd, cU, cT, adU, fU, fU2]; done)
    | 4 => by first | rfl | (simp [aN, aL, aD, aS, aM, aE, sTop, sSk, sMa, sLe, xW, xLn, xOl, xB, xSo, xR, xK, sW, sRi, sXp, lEx, lWs, lMd, cU, cT, adU, fU, fU2]; done)
    | 5 => by first | rfl | (simp [aN, aL, aD, aS, aM, aE, sTop, sSk, sMa, sLe, xW, xLn, xOl, xB, xSo, xR, xK, sW, sRi, sXp, lEx, lWs, lMd, cU, cT, adU, fU, fU2]; done)
    | 6 => by first | rfl | (simp [aN, aL, aD, aS, aM, aE, sTop, sSk, sMa, sLe, xW, xLn, xOl, xB, xSo, xR, xK, sW, sRi, sXp, lEx, lWs, lMd, cU, cT, adU, fU, fU2]; done)
    | 7 => by first | rfl | (simp [aN, aL, aD, aS, aM, aE, sTop, sSk, sMa, sLe, xW, xLn, xOl, xB, xSo, xR, xK, sW, sRi, sXp, lEx, lWs, lMd, cU, cT, adU, fU, fU2]; done)
    | 8 => by first | rfl | (simp [aN, aL, aD, aS, aM, aE, sTop, sSk, sMa, sLe, xW, xLn, xOl, xB, xSo, xR, xK, sW, sRi, sXp, lEx, lWs, lMd, cU, cT, adU, fU, fU2]; done)
    | 9 => by first | rfl | (simp [aN, aL, aD, aS, aM, aE, sTop, sSk, sMa, sLe, xW, xLn, xOl, xB, xSo, xR, xK, sW, sRi, sXp, lEx, lWs, lMd, cU, cT, adU, fU, fU2]; done)
    | 10 => by first | rfl | (simp [aN, aL, aD, aS, aM, aE, sTop, sSk, sMa, sLe, xW, xLn, xOl, xB, xSo, xR, xK, sW, sRi, sXp, lEx, lWs, lMd, cU, cT, adU, fU, fU2]; done)
    | 11 => by first | rfl | (simp [aN, aL, aD, aS, aM, aE, sTop, sSk, sMa, sLe, xW, xLn, xOl, xB, xSo, xR, xK, sW, sRi, sXp, lEx, lWs, lMd, cU, cT, adU, fU, fU2]; done)
    | 12 => by first | rfl | (simp [aN, aL, aD, aS, aM, aE, sTop, sSk, sMa, sLe, xW, xLn, xOl, xB, xSo, xR, xK, sW, sRi, sXp, lEx, lWs, lMd, cU, cT, adU, fU, fU2]; done)
    | 13 => by first | rfl | (simp [aN, aL, aD, aS, aM, aE, sTop, sSk, sMa, sLe, xW, xLn, xOl, xB, xSo, xR, xK, sW, sRi, sXp, lEx, lWs, lMd, cU, cT, adU, fU, fU2]; done)
    | 14 => by first | rfl | (simp [aN, aL, aD, aS, aM, aE, sTop, sSk, sMa, sLe, xW, xLn, xOl, xB, xSo, xR, xK, sW, sRi, sXp, lEx, lWs, lMd, cU, cT, adU, fU, fU2]; done)
    | 15 => by first | rfl | (simp [aN, aL, aD, aS, aM, aE, sTop, sSk, sMa, sLe, xW, xLn, xOl, xB, xSo, xR, xK, sW, sRi, sXp, lEx, lWs, lMd, cU, cT, adU, fU, fU2]; done)
    | 16 => by first | rfl | (simp [aN, aL, aD, aS, aM, aE, sTop, sSk, sMa, sLe, xW, xLn, xOl, xB, xSo, xR, xK, sW, sRi, sXp, lEx, lWs, lMd, cU, cT, adU, fU, fU2]; done)
    | 17 => by first | rfl | (simp [aN, aL, aD, aS, aM, aE, sTop, sSk, sMa, sLe, xW, xLn, xOl, xB, xSo, xR, xK, sW, sRi, sXp, lEx, lWs, lMd, cU, cT, adU, fU, fU2]; done)
    | 18 => by first | rfl | (simp [aN, aL, aD, aS, aM, aE, sTop, sSk, sMa, sLe, xW, xLn, xOl, xB, xSo, xR, xK, sW, sRi, sXp, lEx, lWs, lMd, cU, cT, adU, fU, fU2]; done)
    | 19 => by first | rfl | (simp [aN, aL, aD, aS, aM, aE, sTop, sSk, sMa, sLe, xW, xLn, xOl, xB, xSo, xR, xK, sW, sRi, sXp, lEx, lWs, lMd, cU, cT, adU, fU, fU2]; done)
    | 20 => by first | rfl | (simp [aN, aL, aD, aS, aM, aE, sTop, sSk, sMa, sLe, xW, xLn, xOl, xB, xSo, xR, xK, sW, sRi, sXp, lEx, lWs, lMd, cU, cT, adU, fU, fU2]; done)
    | 21 => by first | rfl | (simp [aN, aL, aD, aS, aM, aE, sTop, sSk, sMa, sLe, xW, xLn, xOl, xB, xSo, xR, xK, sW, sRi, sXp, lEx, lWs, lMd, cU, cT, adU, fU, fU2]; done)
    | 22 => by first | rfl | (simp [aN, aL, aD, aS, aM, aE, sTop, sSk, sMa, sLe, xW, xLn, xOl, xB, xSo, xR, xK, sW, sRi, sXp, lEx, lWs, lMd, cU, cT, adU, fU, fU2]; done)
    | 23 => by first | rfl | (simp [aN, aL, aD, aS, aM, aE, sTop, sSk, sMa, sLe, xW, xLn, xOl, xB, xSo, xR, xK, sW, sRi, sXp, lEx, lWs, lMd, cU, cT, adU, fU, fU2]; done)
    | 24 => by first | rfl | (simp [aN, aL, aD, aS, aM, aE, sTop, sSk, sMa, sLe, xW, xLn, xOl, xB, xSo, xR, xK, sW, sRi, sXp, lEx, lWs, lMd, cU, cT, adU, fU, fU2]; done)
    | 25 => by first | rfl | (simp [aN, aL, aD, aS, aM, aE, sTop, sSk, sMa, sLe, xW, xLn, xOl, xB, xSo, xR, xK, sW, sRi, sXp, lEx, lWs, lMd, cU, cT, adU, fU, fU2]; done)
    | 26 => by first | rfl | (simp [aN, aL, aD, aS, aM, aE, sTop, sSk, sMa, sLe, xW, xLn, xOl, xB, xSo, xR, xK, sW, sRi, sXp, lEx, lWs, lMd, cU, cT, adU, fU, fU2]; done)
    | 27 => by first | rfl | (simp [aN, aL, aD, aS, aM, aE, sTop, sSk, sMa, sLe, xW, xLn, xOl, xB, xSo, xR, xK, sW, sRi, sXp, lEx, lWs, lMd, cU, cT, adU, fU, fU2]; done)
    | 28 => by first | rfl | (simp [aN, aL, aD, aS, aM, aE, sTop, sSk, sMa, sLe, xW, xLn, xOl, xB, xSo, xR, xK, sW, sRi, sXp, lEx, lWs, lMd, cU, cT, adU, fU, fU2]; done)
    | 29 => by
        by_cases h : j = j0 ∧ k = k0
        · obtain ⟨rfl, rfl⟩ := h; simp [aN, aL, aD, aS, aM, aE, sTop, sSk, sMa, sLe, lEx, lWs, lMd, cU, cT, adU, fU, fU2, yT, yS, yL, yA, yM, yO, yAn, yMn, oMap, hj, hk, mOd, mTo, mOp, mRo, mDu]
        · simp [aN, aL, aD, aS, aM, aE, sTop, sSk, sMa, sLe, lEx, lWs, lMd, cU, cT, adU, fU, fU2, yT, yS, yL, yA, yM, yO, yAn, yMn, oMap, h]
    | 30 => by
        by_cases h : j = j0 ∧ k = k0
        · obtain ⟨rfl, rfl⟩ := h; simp [aN, aL, aD, aS, aM, aE, sTop, sSk, sMa, sLe, lEx, lWs, lMd, cU, cT, adU, fU, fU2, yT, yS, yL, yA, yM, yO, yAn, yMn, oMap, hj, hk, hc, lsD, mAn]
        · simp [aN, aL, aD, aS, aM, aE, sTop, sSk, sMa, sLe, lEx, lWs, lMd, cU, cT, adU, fU, fU2, yT, yS, yL, yA, yM, yO, yAn, yMn, oMap, h]
    | 31 => by
        by_cases h : j = j0 ∧ k = k0
        · obtain ⟨rfl, rfl⟩ := h; simp [aN, aL, aD, aS, aM, aE, sTop, sSk, sMa, sLe, lEx, lWs, lMd, cU, cT, adU, fU, fU2, yT, yS, yL, yA, yM, yO, yAn, yMn, oMap, hj, hk, hc, mAn, rBo]
        · simp [aN, aL, aD, aS, aM, aE, sTop, sSk, sMa, sLe, lEx, lWs, lMd, cU, cT, adU, fU, fU2, yT, yS, yL, yA, yM, yO, yAn, yMn, oMap, h]
    | 32 => by first | rfl | (simp [aN, aL, aD, aS, aM, aE, sTop, sSk, sMa, sLe, xW, xLn, xOl, xB, xSo, xR, xK, sW, sRi, sXp, lEx, lWs, lMd, cU, cT, adU, fU, fU2]; done)
    | 33 => by first | rfl | (simp [aN, aL, aD, aS, aM, aE, sTop, sSk, sMa, sLe, xW, xLn, xOl, xB, xSo, xR, xK, sW, sRi, sXp, lEx, lWs, lMd, cU, cT, adU, fU, fU2]; done)
    | 34 => by first | rfl | (simp [aN, aL, aD, aS, aM, aE, sTop, sSk, sMa, sLe, xW, xLn, xOl, xB, xSo, xR, xK, sW, sRi, sXp, lEx, lWs, lMd, cU, cT, adU, fU, fU2]; done)
    | 35 => by first | rfl | (simp [aN, aL, aD, aS, aM, aE, sTop, sSk, sMa, sLe, xW, xLn, xOl, xB, xSo, xR, xK, sW, sRi, sXp, lEx, lWs, lMd, cU, cT, adU, fU, fU2]; done)
    | 36 => by first | rfl | (simp [aN, aL, aD, aS, aM, aE, sTop, sSk, sMa, sLe, xW, xLn, xOl, xB, xSo, xR, xK, sW, sRi, sXp, lEx, lWs, lMd, cU, cT, adU, fU, fU2]; done)
    | 37 => by first | rfl | (simp [aN, aL, aD, aS, aM, aE, sTop, sSk, sMa, sLe, xW, xLn, xOl, xB, xSo, xR, xK, sW, sRi, sXp, lEx, lWs, lMd, cU, cT, adU, fU, fU2]; done)
    | 38 => by first | rfl | (simp [aN, aL, aD, aS, aM, aE, sTop, sSk, sMa, sLe, xW, xLn, xOl, xB, xSo, xR, xK, sW, sRi, sXp, lEx, lWs, lMd, cU, cT, adU, fU, fU2]; done)
    | 39 => by first | rfl | (simp [aN, aL, aD, aS, aM, aE, sTop, sSk, sMa, sLe, xW, xLn, xOl, xB, xSo, xR, xK, sW, sRi, sXp, lEx, lWs, lMd, cU, cT, adU, fU, fU2]; done)
    | n + 40 => by first | rfl | simp [cU, cT])

theorem WR_add {G : mq_G} {f g : mq_F} {ad : AD} {S : AT} {X : CX} {S2 : AT} {Y : MX} {O : OX} {j k : Nat} {z : Bool} {mc : Int32} (hR : WR G f ad S X S2 Y O) (hj : j < aL S2) (hk : k < 10) (hc : lcO (mAn (aM S2 j k)).length (yA Y j k).2) (hl : (mAn (aM S2 j k)).length < 512)
    (ha : addP G f g (ad 30 j k) (sB G z) mc (yA Y j k).2 (ad 31 j k) (mAn (aM S2 j k)).length (fun i => sB G ((mAn (aM S2 j k)).getD i false))) : ∃ q cap, lcO ((mAn (aM S2 j k)).length + 1) cap ∧ WR G g (adU ad 31 j k q) S X (nsA S2 j k (mAn (aM S2 j k) ++ [z])) (yAn Y j k (mc, cap)) O := by
  have hlen : (mAn (aM S2 j k) ++ [z]).length = (mAn (aM S2 j k)).length + 1 := by simp
  unfold addP at ha
  rw [bo_row] at ha
  rcases ha with ⟨h1, hg⟩ | ⟨h1, q, hq, hg⟩
  · have hc0 : (yA Y j k).2 ≠ 0 := by omega
    refine ⟨ad 31 j k, (yA Y j k).2, ⟨h1, hc.2⟩, ?_⟩
    have r1 := RR.put hR (a := 31) (j := j) (k := k) (t31 hc0 hj hk) rfl (e := cRf (G.2 8) (yA Y j k).2 (rBo G (mAn (aM S2 j k) ++ [z]))) (g := mq_up f (ad 31 j k) _) rfl
    have r2 := RR.put r1 (a := 30) (j := j) (k := k) ((cU_n (by simp)).trans (t30 hj hk)) rfl hg
    rw [← hlen, cT_n2 _ _ _ (ad 31 j k) hc0 hj hk, adU_id] at r2
    rw [adU_id]; exact r2
  · refine ⟨q, nc (mAn (aM S2 j k)).length, nc_le hl, ?_⟩
    have hcn : nc (yA Y j k).2 ≠ 0 := by unfold nc; split <;> omega
    have r1 := RR.new hR (a := 31) (j := j) (k := k) hq (e := cRf (G.2 8) (nc (yA Y j k).2) (rBo G (mAn (aM S2 j k) ++ [z]))) (g := mq_up f q _) rfl
    have r2 := RR.put r1 (a := 30) (j := j) (k := k) ((cU_n (by simp)).trans (t30 hj hk)) rfl (g := g) (e := cLs mc q ((mAn (aM S2 j k)).length + 1)) hg
    rw [← hlen, cT_n2 _ _ _ q hcn hj hk] at r2
    rw [h1]; exact r2
theorem WR_mid {G : mq_G} {f : mq_F} {ad : AD} {S : AT} {X : CX} {S2 : AT} {Y : MX} {O : OX} {f1 f2 : mq_F} {j k q : Nat} {z : Bool} {z1 : va_E} (hR : WR G f (adU ad 31 j k q) S X (nsA S2 j k (mAn (aM S2 j k) ++ [z])) Y O) (hj : j < aL S2) (hk : k < 10) (h1 : f1 = mq_up f (ad 29 j k) z1) (h2 : f2 = mq_up f1 (ad 29 j k) (cKn (vMid S2 j k z) (ad 30 j k))) : WR G f2 (adU ad 31 j k q) S X (nsMid S2 j k z) Y O := by
  have h := WR_kn hR (vMid S2 j k z) (by rw [sMa_at]) hj hk (g := f2) (by rw [h2, h1, mq_uu]; rfl)
  have e8 : sMa (nsA S2 j k (mAn (aM S2 j k) ++ [z])) j k (vMid S2 j k z) = nsMid S2 j k z := sMa_sMa
  rw [e8] at h; exact h
theorem WR_due {G : mq_G} {f g : mq_F} {ad : AD} {S : AT} {X : CX} {S2 : AT} {Y : MX} {O : OX} {j k q : Nat} {z : Bool} (hR : WR G f (adU ad 31 j k q) S X (nsMid S2 j k z) Y O) (hj : j < aL S2) (hk : k < 10) (h2 : g = mq_up f (ad 29 j k) (cKn (nMa S2 j k z) (ad 30 j k))) : WR G g (adU ad 31 j k q) S X (nsNote S2 j k z) Y O := by
  have h := WR_kn hR (nMa S2 j k z) (by rw [sMa_at]) hj hk (g := g) h2
  have e8 : sMa (nsMid S2 j k z) j k (nMa S2 j k z) = nsNote S2 j k z := sMa_sMa
  rw [e8] at h; exact h

set_option maxHeartbeats 4000000 in
set_option maxRecDepth 100000 in
theorem c_X11_note (l : Launch) (G : mq_G) (A : Nat → Prop) (f : mq_F) (ad : AD) (S : AT) (X : CX) (S2 : AT) (Y : MX) (O : OX) (T : Nat) (j k : Nat) (z : Bool) : Met l yX11_note wsX11_note ({ frames := 12, cells := 1, slots := 800, locals := 231 } : Room) (mq_Pc G A f (WR G f ad S X S2 Y O ∧ mOK S2 Y T ∧ j < aL S2 ∧ k < aN S2 ∧ T < 512) [.ref (ad 20 0 0), .int (nI j), .int (nI k), .int (zb z)]) (mq_Qv G A (fun g => ∃ q9 cap9, lcO ((mAn (aM S2 j k)).length + 1) cap9 ∧ WR G g (adU ad 31 j k q9) S X (nsNote S2 j k z) (yAn Y j k ((yA Y j k).1 + 1, cap9)) O)) 1 800 A := by
  refine Met.ofW (cc := cX11_note) (maxL := 8) (ret := none) (by decide) rfl ?_
  intro p e s m args below meth c s₁ B hml hv
  obtain ⟨rfl, ⟨hK, hZ, hM, hA⟩, hp⟩ := hv
  have hx := B.exec
  have hb := B.bytes
  have hr := B.returns
  have hts := atoms_spec (ws := wsX11_note) B.pre
  have hown : s.vm.findClass RX11 = some m.cls := findClass_of_methodNamed B.named
  have hlocks := B.notSynchronized
  have hS : va_S A s.heap s.heap [] := va_S.rf
  have hl := lv_entry ([.ref (ad 20 0 0), .int (nI j), .int (nI k), .int (zb z)]) (n := 8) (Nat.le_of_ble_eq_true rfl)
  rw [lg_entry_eq]
  generalize (lg_sl ([.ref (ad 20 0 0), .int (nI j), .int (nI k), .int (zb z)]) ++ List.replicate (8 - (lg_sl ([.ref (ad 20 0 0), .int (nI j), .int (nI k), .int (zb z)])).length) Slot.unset).toArray = ls at hl ⊢
  have hl : lv_has ls 8 [(0, .ref (ad 20 0 0)), (1, .int (nI j)), (2, .int (nI k)), (3, .int (zb z))] := hl
  have w0 := hts (.fieldLink RX11 101 "TutorlightModel$Known" "answers" "Ljava/util/ArrayList;") (List.mem_of_getElem? (i := 1) rfl)
  have w1 := hts (.fieldLink RX11 10 "TutorlightModel" "skills" "Ljava/util/ArrayList;") (List.mem_of_getElem? (i := 2) rfl)
  have w2 := hts (.classLink RX11 52 "TutorlightModel$Skill") (List.mem_of_getElem? (i := 3) rfl)
  have w3 := hts (.fieldLink RX11 81 "TutorlightModel$Known" "odds" "I") (List.mem_of_getElem? (i := 4) rfl)
  have w4 := hts (.fieldLink RX11 107 "TutorlightModel$Known" "due" "I") (List.mem_of_getElem? (i := 7) rfl)
  have w5 := hts (.fieldLink RX11 120 "TutorlightModel$Known" "row" "I") (List.mem_of_getElem? (i := 5) rfl)
  have w6 := hts (.fieldLink RX11 123 "TutorlightModel" "day" "I") (List.mem_of_getElem? (i := 6) rfl)
  have nX8 : ∀ w ∈ wsX80, w ∈ wsX11_note := fun _ h => List.mem_cons_of_mem _ (List.mem_append_left _ (List.mem_append_left _ (List.mem_append_left _ (List.mem_append_left _ (List.mem_append_left _ (List.mem_append_right _ h))))))
  have nX11 : ∀ w ∈ wsX110, w ∈ wsX11_note := fun _ h => List.mem_cons_of_mem _ (List.mem_append_left _ (List.mem_append_left _ (List.mem_append_left _ (List.mem_append_left _ (List.mem_append_right _ h)))))
  obtain ⟨hR, hO, hj, hk, hT5⟩ := hp
  obtain ⟨⟨X9, ⟨hn, hl4, hd2, hT⟩, hsk, hma, hdc, hle, -⟩, ⟨hns, hnc⟩, ⟨hls, hlc⟩, hac, hmc⟩ := id hO
  obtain ⟨⟨X8, hX8⟩, -⟩ := id hO
  have mab := hma j k hj (by omega)
  have mab3 := mab.2.2.1
  have mab4 := mab.2.2.2.1
  have y20_265 := hR.1 _ _ _ _ (t20)
  have y29_266 := hR.1 _ _ _ _ (t29 (j := j) (k := k) hj (by omega))
  refine lv_aload_n hx hb dX11_note_0 rfl (lv_at hl 0 rfl) ?_
  refine lv_iload_n hx hb dX11_note_1 rfl (lv_at hl 1 rfl) ?_
  refine lv_iload_n hx hb dX11_note_2 rfl (lv_at hl 2 rfl) ?_
  refine mq_callq (va_runV (As := [.int (nI j), .int (nI k)]) (rest := []) ⟨hx, hb, hml, hown, hts⟩ (c_X11_of l G A f ad S X S2 Y O T j k) (cwV 2 hts gX11_note_X11_of rfl rfl rfl (by decide +kernel) ⟨Nat.le_of_ble_eq_true rfl, Nat.le_of_ble_eq_true rfl⟩) (mq_preV hK hZ hS hA hM (q := (RX11, TX11, 4)) y20_265 rfl (⟨hR, hO, hj, by omega⟩) _) rfl rfl hl.1 rfl (lv_room (Nat.le_of_ble_eq_true rfl)) dX11_note_3 ⟨Nat.le_of_ble_eq_true rfl, Nat.le_of_ble_eq_true rfl⟩) hS (fun r3 g3 H locs p3 hM hS => ?_)
  refine W.widen (k := 0) (n := 0) (Nat.le_of_ble_eq_true rfl) (Nat.le_of_ble_eq_true rfl) ?_
  obtain ⟨rfl, rfl⟩ := p3
  refine lv_astore (lv' := [(4, .ref (ad 29 j k)), (0, .ref (ad 20 0 0)), (1, .int (nI j)), (2, .int (nI k)), (3, .int (zb z))]) hx hb dX11_note_6 hl (by decide) rfl (fun ls hl => ?_)
  have hac1 := hac j k hj (by omega)
  have y29_263 := hR.1 _ _ _ _ (t29 (j := j) (k := k) hj (by omega))
  have y30_264 := hR.1 _ _ _ _ (t30 (j := j) (k := k) hj (by omega))
  refine lv_aload hx hb dX11_note_8 (lv_at hl 0 rfl) ?_
  refine mq_get (ci := 13) (v := .ref (ad 30 j k)) (C := RX8) (T := TX8) (N := 6) hx hb hts nX8 hown hK hM y29_263 rfl 2 (by decide) w0 (fun _ h9 => h9) rfl dX11_note_10 ?_
  refine lv_iload_n hx hb dX11_note_13 rfl (lv_at hl 4 rfl) ?_
  refine mq_callq (va_runS (As := [.int (zb z)]) (rest := [.ref (ad 30 j k)]) ⟨hx, hb, hml, hown, hts⟩ (c_J14_valueOf_4531c l G A f z) (va_cwS 1 hts gX11_note_J14_valueOf_4531c rfl rfl rfl (by decide +kernel) ⟨Nat.le_of_ble_eq_true rfl, Nat.le_of_ble_eq_true rfl⟩) (mq_preS hK hZ hS hA hM (trivial) _) rfl rfl hl.1 rfl (lv_room (Nat.le_of_ble_eq_true rfl)) dX11_note_14 ⟨Nat.le_of_ble_eq_true rfl, Nat.le_of_ble_eq_true rfl⟩) hS (fun r14 g14 H locs p14 hM hS => ?_)
  refine W.widen (k := 0) (n := 0) (Nat.le_of_ble_eq_true rfl) (Nat.le_of_ble_eq_true rfl) ?_
  obtain ⟨rfl, rfl⟩ := p14
  refine mq_calli (va_runV (As := [.ref (sB G z)]) (rest := []) ⟨hx, hb, hml, hown, hts⟩ (c_Jx4a65c_add_9ea2d l G A f (ad 30 j k) (sB G z) (yA Y j k).1 (yA Y j k).2 (ad 31 j k) (mAn (aM S2 j k)).length (fun i => sB G ((mAn (aM S2 j k)).getD i false)) 800) (cwV 1 hts gX11_note_Jx4a65c_add_9ea2d rfl rfl rfl (by decide +kernel) ⟨Nat.le_of_ble_eq_true rfl, Nat.le_of_ble_eq_true rfl⟩) (mq_preV hK hZ hS hA hM (q := (RJx4a65c, TJx4a65c, 3)) y30_264 rfl (⟨y30_264, fun q => hR.1 _ _ _ _ (t31 q hj (by omega)), hac1.1, by omega, hac1.2, fun q => (nc_le (by rw [← q]; omega)).2, fun i _ => Or.inr (Or.inr (Or.inl ⟨_, rfl⟩)), Or.inr (Or.inr (Or.inl ⟨_, rfl⟩))⟩) _) rfl rfl hl.1 rfl (lv_room (Nat.le_of_ble_eq_true rfl)) dX11_note_17 ⟨Nat.le_of_ble_eq_true rfl, Nat.le_of_ble_eq_true rfl⟩) hS (fun r17 g17 H locs p17 hM hS => ?_)
  refine W.widen (k := 1) (n := 800) (Nat.le_of_ble_eq_true rfl) (Nat.le_of_ble_eq_true rfl) ?_
  obtain ⟨ha17, rfl⟩ := p17
  obtain ⟨q9, cap9, hlc9, hR2⟩ := WR_add hR hj (by omega) hac1 (by omega) ha17
  have z20 : g17 (ad 20 0 0) = some (.inr (16, [.int (yT Y), .int (nI (aD S2)), .ref (ad 21 0 0), .ref (ad 23 0 0)])) := hR2.1 20 0 0 _ t20
  have hcs : (yS Y).2 ≠ 0 := by omega
  have z21 : g17 (ad 21 0 0) = some (.inr (4, [.int ((yS Y).1), .ref (ad 22 0 0), .int (nI (aN S2))])) := hR2.1 21 0 0 _ (t121 (Y := (yAn Y j k ((yA Y j k).1 + 1, cap9))) hcs)
  have z22 : g17 (ad 22 0 0) = some (.inl (G.2 8, (yS Y).2, .inr (.inr (.inr (.inr (rf_of (aN S2) (fun i => ad 25 i 0))))))) := hR2.1 22 0 0 _ (t22 (Y := (yAn Y j k ((yA Y j k).1 + 1, cap9))) hcs)
  have z25 : g17 (ad 25 k 0) = some (.inr (15, [.int (nI ((aS S2 k).1)), .int (nI ((aS S2 k).2.1)), .int (nI ((aS S2 k).2.2.1)), .ref (ad 26 k 0)])) := hR2.1 25 k 0 _ (t25 (j := k) hk)
  have w29 := hR2.1 29 j k _ (t29 (j := j) (k := k) hj (by omega))
  rw [sMa_at] at w29
  have z29 : g17 (ad 29 j k) = some (.inr (13, [.int (nI (mOd (aM S2 j k))), .int (nI (mTo (aM S2 j k))), .ref (ad 30 j k), .int (zb (mOp (aM S2 j k))), .int (nI (mRo (aM S2 j k))), .int (du (mDu (aM S2 j k)))])) := w29
  refine lv_pop hx hb dX11_note_20 rfl ?_
  refine lv_aload hx hb dX11_note_21 (lv_at hl 0 rfl) ?_
  refine lv_aload_n hx hb dX11_note_23 rfl (lv_at hl 1 rfl) ?_
  refine mq_get (ci := 16) (v := .ref (ad 21 0 0)) (C := RX11) (T := TX11) (N := 4) hx hb hts nX11 hown hK hM z20 rfl 2 (by decide) w1 (fun _ h9 => h9) rfl dX11_note_24 ?_
  refine lv_iload_n hx hb dX11_note_27 rfl (lv_at hl 3 rfl) ?_
  refine mq_callq (va_runV (As := [.int (nI k)]) (rest := [.ref (ad 29 j k)]) ⟨hx, hb, hml, hown, hts⟩ (c_Jx4a65c_get_915e3 l G A g17 (ad 21 0 0) (yS Y).1 (ad 22 0 0) (yS Y).2 (aN S2) k (fun i => ad 25 i 0)) (cwV 1 hts gX11_note_Jx4a65c_get_915e3 rfl rfl rfl (by decide +kernel) ⟨Nat.le_of_ble_eq_true rfl, Nat.le_of_ble_eq_true rfl⟩) (mq_preV hK hZ hS hA hM (q := (RJx4a65c, TJx4a65c, 3)) z21 rfl (⟨z21, z22, hk, hns, by omega⟩) _) rfl rfl hl.1 rfl (lv_room (Nat.le_of_ble_eq_true rfl)) dX11_note_28 ⟨Nat.le_of_ble_eq_true rfl, Nat.le_of_ble_eq_true rfl⟩) hS (fun r28 g28 H locs p28 hM hS => ?_)
  refine W.widen (k := 1) (n := 800) (Nat.le_of_ble_eq_true rfl) (Nat.le_of_ble_eq_true rfl) ?_
  obtain ⟨rfl, rfl⟩ := p28
  refine mq_castG hx hb hown w2 (mq_recv hK hM z25 rfl) dX11_note_31 ?_
  refine lv_aload hx hb dX11_note_34 (lv_at hl 0 rfl) ?_
  refine mq_get (ci := 13) (v := .int (nI (mOd (aM S2 j k)))) (C := RX8) (T := TX8) (N := 6) hx hb hts nX8 hown hK hM z29 rfl 0 (by decide) w3 (fun _ h9 => h9) rfl dX11_note_36 ?_
  refine lv_iload_n hx hb dX11_note_39 rfl (lv_at hl 4 rfl) ?_
  refine mq_calli (va_runS (As := [.ref (ad 25 k 0), .int (nI (mOd (aM S2 j k))), .int (zb z)]) (rest := [.ref (ad 29 j k)]) ⟨hx, hb, hml, hown, hts⟩ (c_X11_moved l G A g17 (ad 25 k 0) (aS S2 k).1 (aS S2 k).2.1 (aS S2 k).2.2.1 (ad 26 k 0) (mOd (aM S2 j k)) z) (va_cwS 3 hts gX11_note_X11_moved rfl rfl rfl (by decide +kernel) ⟨Nat.le_of_ble_eq_true rfl, Nat.le_of_ble_eq_true rfl⟩) (mq_preS hK hZ hS hA hM (⟨z25, (hsk k hk).1, (hsk k hk).2.1, (hsk k hk).2.2.1, (hma j k hj (by omega)).1⟩) _) rfl rfl hl.1 rfl (lv_room (Nat.le_of_ble_eq_true rfl)) dX11_note_40 ⟨Nat.le_of_ble_eq_true rfl, Nat.le_of_ble_eq_true rfl⟩) hS (fun r40 g40 H locs p40 hM hS => ?_)
  refine W.widen (k := 1) (n := 800) (Nat.le_of_ble_eq_true rfl) (Nat.le_of_ble_eq_true rfl) ?_
  obtain ⟨rfl, rfl⟩ := p40
  refine mq_put (ci := 13) (v := .int (nI (mv (aS S2 k).1 (aS S2 k).2.1 (aS S2 k).2.2.1 (mOd (aM S2 j k)) z))) (ty := .int) (C := RX8) (T := TX8) (N := 6) (fs' := [.int (nI (mv (aS S2 k).1 (aS S2 k).2.1 (aS S2 k).2.2.1 (mOd (aM S2 j k)) z)), .int (nI (mTo (aM S2 j k))), .ref (ad 30 j k), .int (zb (mOp (aM S2 j k))), .int (nI (mRo (aM S2 j k))), .int (du (mDu (aM S2 j k)))]) hx hb hts nX8 tyX8 tyX8_ok nmX8 hown hK hM hS z29 rfl 0 (by decide) w3 (fun _ h9 => h9) rfl (by decide +kernel) rfl rfl (Nat.le_of_ble_eq_true rfl) dX11_note_43 rfl (fun f_1 H locs e_2 hM hS => ?_)
  have h_3 : f_1 (ad 20 0 0) = some (.inr (16, [.int (yT Y), .int (nI (aD S2)), .ref (ad 21 0 0), .ref (ad 23 0 0)])) := mq_n e_2 z20 (mq_neO z20 z29 (by decide))
  have h_4 : f_1 (ad 21 0 0) = some (.inr (4, [.int ((yS Y).1), .ref (ad 22 0 0), .int (nI (aN S2))])) := mq_n e_2 z21 (mq_neO z21 z29 (by decide))
  have h_5 : f_1 (ad 22 0 0) = some (.inl (G.2 8, (yS Y).2, .inr (.inr (.inr (.inr (rf_of (aN S2) (fun i => ad 25 i 0))))))) := mq_n e_2 z22 (mq_neB z22 z29)
  have h_6 : f_1 (ad 25 k 0) = some (.inr (15, [.int (nI ((aS S2 k).1)), .int (nI ((aS S2 k).2.1)), .int (nI ((aS S2 k).2.2.1)), .ref (ad 26 k 0)])) := mq_n e_2 z25 (mq_neO z25 z29 (by decide))
  have h_7 : f_1 (ad 29 j k) = some (.inr (13, [.int (nI (mv (aS S2 k).1 (aS S2 k).2.1 (aS S2 k).2.2.1 (mOd (aM S2 j k)) z)), .int (nI (mTo (aM S2 j k))), .ref (ad 30 j k), .int (zb (mOp (aM S2 j k))), .int (nI (mRo (aM S2 j k))), .int (du (mDu (aM S2 j k)))])) := mq_s e_2
  have K122 : ∀ (n9 : Nat) (i v : Nat), (aN S2 - i) < n9 → (i ≤ aN S2) → (ffd (ffP S2 j k) (aN S2) (aD S2 + dw (nRow z (mRo (aM S2 j k)))) = ffd (ffP S2 j k) (aN S2 - i) v) → (v = (aD S2 + dw (nRow z (mRo (aM S2 j k)))) + i) → ∀ (f9 : mq_F), (WR G f9 (adU ad 31 j k q9) S X (nsMid S2 j k z) (yAn Y j k ((yA Y j k).1 + 1, cap9)) O) → ∀ (H : Heap) (locs : List Loc), mq_W G.1 A f9 H → va_S A s.heap H locs → ∀ (ls : Array Slot), lv_has ls 8 [(0, .ref (ad 20 0 0)), (1, .int (nI j)), (2, .int (nI k)), (4, .ref (ad 29 j k)), (5, .int (nI v))] → W p l e (headSpec wsX11_note ({ frames := 12, cells := 1, slots := 800, locals := 231 } : Room)).room s m ([.ref (ad 20 0 0), .int (nI j), .int (nI k), .int (zb z)] : List Value).toArray below meth c H locs 1 800 (MQ below (mq_Qv G A (fun g => ∃ q9 cap9, lcO ((mAn (aM S2 j k)).length + 1) cap9 ∧ WR G g (adU ad 31 j k q9) S X (nsNote S2 j k z) (yAn Y j k ((yA Y j k).1 + 1, cap9)) O)) ([.ref (ad 20 0 0), .int (nI j), .int (nI k), .int (zb z)] : List Value).toArray s 1 800 A) (F0 m 122 ls []) := by
    intro n9
    induction n9 with
    | zero => intro i v hn9; exact absurd hn9 (Nat.not_lt_zero _)
    | succ n9 ih122 =>
      intro i v hn9 hi hq hv f9 hRm H locs hM hS ls hl
      have hdw := (dw_le (nRow z (mRo (aM S2 j k)))).2
      have m20 : f9 (ad 20 0 0) = some (.inr (16, [.int (yT Y), .int (nI (aD S2)), .ref (ad 21 0 0), .ref (ad 23 0 0)])) := hRm.1 20 0 0 _ t20
      have w29 := hRm.1 29 j k _ (t29 (j := j) (k := k) hj (by omega))
      rw [sMa_at] at w29
      have m29 : f9 (ad 29 j k) = some (.inr (13, [.int (nI (mv (aS S2 k).1 (aS S2 k).2.1 (aS S2 k).2.2.1 (mOd (aM S2 j k)) z)), .int (nI (mTo (aM S2 j k))), .ref (ad 30 j k), .int (zb (mOp (aM S2 j k))), .int (nI (nRow z (mRo (aM S2 j k)))), .int (du (mDu (aM S2 j k)))])) := w29
      refine lv_aload_n hx hb dX11_note_122 rfl (lv_at hl 0 rfl) ?_
      refine lv_iload_n hx hb dX11_note_123 rfl (lv_at hl 1 rfl) ?_
      refine lv_iload_n hx hb dX11_note_124 rfl (lv_at hl 2 rfl) ?_
      refine lv_iload hx hb dX11_note_125 (lv_at hl 4 rfl) ?_
      rw [← du_S v]
      refine mq_calli (va_runV (As := [.int (nI j), .int (nI k), .int (du (v + 1))]) (rest := []) ⟨hx, hb, hml, hown, hts⟩ (c_X11_othersDue l G A f9 (adU ad 31 j k q9) S X (nsMid S2 j k z) (yAn Y j k ((yA Y j k).1 + 1, cap9)) O (T + 1) j k (v + 1)) (cwV 3 hts gX11_note_X11_othersDue rfl rfl rfl (by decide +kernel) ⟨Nat.le_of_ble_eq_true rfl, Nat.le_of_ble_eq_true rfl⟩) (mq_preV hK hZ hS hA hM (q := (RX11, TX11, 4)) m20 rfl (⟨hRm, ⟨⟨_, ok_mid hX8 hT5 hj hk⟩, mCp_an hO.2 (by rw [show (mAn (aM S2 j k) ++ [z]).length = (mAn (aM S2 j k)).length + 1 by simp]; exact hlc9)⟩, hj, hk, by omega⟩) _) rfl rfl hl.1 rfl (lv_room (Nat.le_of_ble_eq_true rfl)) dX11_note_127 ⟨Nat.le_of_ble_eq_true rfl, Nat.le_of_ble_eq_true rfl⟩) hS (fun r127 g127 H locs p127 hM hS => ?_)
      refine W.widen (k := 1) (n := 800) (Nat.le_of_ble_eq_true rfl) (Nat.le_of_ble_eq_true rfl) ?_
      obtain ⟨rfl, rfl⟩ := p127
      rw [odu_sMa (S := S2)]
      have ho := cntB_le (odF S2 j k (v + 1)) (aN S2)
      refine lv_iconst (v := 2) hx hb dX11_note_130 (by decide) ?_
      refine lv_icmp_lt (tgt := 140) hx hb dX11_note_131 (by decide) (fun c_131 => ?_) (fun c_131 => ?_)
      · replace c_131 : nI (odu S2 j k (v + 1)) < nI 2 := c_131
        rw [nI_ltI (by first | omega | (unfold odu; omega)) (by first | omega | (unfold odu; omega))] at c_131
        refine lv_aload hx hb dX11_note_140 (lv_at hl 3 rfl) ?_
        refine lv_iload hx hb dX11_note_142 (lv_at hl 4 rfl) ?_
        have hvd : nDay S2 j k z = v := by unfold nDay; rw [hq, ffd_f (by unfold ffP; rw [decide_eq_false_iff_not]; omega)]
        rw [← du_S v]
        refine mq_put (ci := 13) (v := .int (du (v + 1))) (ty := .int) (C := RX8) (T := TX8) (N := 6) (fs' := [.int (nI (mv (aS S2 k).1 (aS S2 k).2.1 (aS S2 k).2.2.1 (mOd (aM S2 j k)) z)), .int (nI (mTo (aM S2 j k))), .ref (ad 30 j k), .int (zb (mOp (aM S2 j k))), .int (nI (nRow z (mRo (aM S2 j k)))), .int (du (v + 1))]) hx hb hts nX8 tyX8 tyX8_ok nmX8 hown hK hM hS m29 rfl 5 (by decide) w4 (fun _ h9 => h9) rfl (by decide +kernel) rfl rfl (Nat.le_of_ble_eq_true rfl) dX11_note_144 rfl (fun f_8 H locs e_9 hM hS => ?_)
        have h_10 : f_8 (ad 20 0 0) = some (.inr (16, [.int (yT Y), .int (nI (aD S2)), .ref (ad 21 0 0), .ref (ad 23 0 0)])) := mq_n e_9 m20 (mq_neO m20 m29 (by decide))
        have h_11 : f_8 (ad 29 j k) = some (.inr (13, [.int (nI (mv (aS S2 k).1 (aS S2 k).2.1 (aS S2 k).2.2.1 (mOd (aM S2 j k)) z)), .int (nI (mTo (aM S2 j k))), .ref (ad 30 j k), .int (zb (mOp (aM S2 j k))), .int (nI (nRow z (mRo (aM S2 j k)))), .int (du (v + 1))])) := mq_s e_9
        rw [← hvd] at e_9
        have hR3 := WR_due hRm hj (by omega) e_9
        exact mq_vret hx hb hr hlocks hM hS (⟨q9, cap9, hlc9, hR3⟩) dX11_note_147
      · replace c_131 : ¬ nI (odu S2 j k (v + 1)) < nI 2 := c_131
        rw [nI_ltI (by first | omega | (unfold odu; omega)) (by first | omega | (unfold odu; omega))] at c_131
        have hit : i < aN S2 := Nat.lt_of_le_of_ne hi (fun q => by have h9 := ffd_stop (S := S2) (j := j) (w := (aD S2 + dw (nRow z (mRo (aM S2 j k))))) hk; rw [hq, q, Nat.sub_self] at h9; have h8 : ffP S2 j k v = false := h9; unfold ffP at h8; rw [decide_eq_false_iff_not] at h8; exact h8 (by omega))
        refine lv_iinc (v := nI (v + 1)) (lv' := [(5, .int (nI (v + 1))), (0, .ref (ad 20 0 0)), (1, .int (nI j)), (2, .int (nI k)), (4, .ref (ad 29 j k))]) hx hb dX11_note_134 hl (k := 4) rfl (nI_add _ _) (by decide) rfl (fun ls hl => ?_)
        refine lv_goto (tgt := 122) hx hb dX11_note_137 (by decide) ?_
        exact ih122 (i + 1) (v + 1) (by omega) (by omega) (by rw [hq, show aN S2 - i = aN S2 - (i + 1) + 1 by omega, ffd_t (by unfold ffP; rw [decide_eq_true_eq]; omega)]) (by omega) _  (hRm) _ _ hM hS _ (lv_sub hl [1, 2, 3, 4, 0] rfl)
  refine lv_aload hx hb dX11_note_46 (lv_at hl 0 rfl) ?_
  refine lv_iload_n hx hb dX11_note_48 rfl (lv_at hl 4 rfl) ?_
  refine lv_if_eq (tgt := 62) hx hb dX11_note_49 (by decide) (fun c_49 => ?_) (fun c_49 => ?_)
  · rw [zb_0] at c_49
    subst c_49
    refine lv_iconst (v := 0) hx hb dX11_note_62 (by decide) ?_
    refine mq_put (ci := 13) (v := .int 0) (ty := .int) (C := RX8) (T := TX8) (N := 6) (fs' := [.int (nI (mv (aS S2 k).1 (aS S2 k).2.1 (aS S2 k).2.2.1 (mOd (aM S2 j k)) false)), .int (nI (mTo (aM S2 j k))), .ref (ad 30 j k), .int (zb (mOp (aM S2 j k))), .int 0, .int (du (mDu (aM S2 j k)))]) hx hb hts nX8 tyX8 tyX8_ok nmX8 hown hK hM hS h_7 rfl 4 (by decide) w5 (fun _ h9 => h9) rfl (by decide +kernel) rfl rfl (Nat.le_of_ble_eq_true rfl) dX11_note_63 rfl (fun f_13 H locs e_14 hM hS => ?_)
    have h_15 : f_13 (ad 20 0 0) = some (.inr (16, [.int (yT Y), .int (nI (aD S2)), .ref (ad 21 0 0), .ref (ad 23 0 0)])) := mq_n e_14 h_3 (mq_neO h_3 h_7 (by decide))
    have h_16 : f_13 (ad 29 j k) = some (.inr (13, [.int (nI (mv (aS S2 k).1 (aS S2 k).2.1 (aS S2 k).2.2.1 (mOd (aM S2 j k)) false)), .int (nI (mTo (aM S2 j k))), .ref (ad 30 j k), .int (zb (mOp (aM S2 j k))), .int 0, .int (du (mDu (aM S2 j k)))])) := mq_s e_14
    refine lv_aload_n hx hb dX11_note_66 rfl (lv_at hl 1 rfl) ?_
    refine mq_get (ci := 16) (v := .int (nI (aD S2))) (C := RX11) (T := TX11) (N := 4) hx hb hts nX11 hown hK hM h_15 rfl 1 (by decide) w6 (fun _ h9 => h9) rfl dX11_note_67 ?_
    refine lv_iconst (v := 1) hx hb dX11_note_70 (by decide) ?_
    refine lv_iadd hx hb dX11_note_71 ?_
    rw [show (nI (aD S2)) + 1 = nI ((aD S2) + 1) from nI_add _ _]
    refine lv_istore (lv' := [(5, .int (nI ((aD S2) + 1))), (4, .ref (ad 29 j k)), (0, .ref (ad 20 0 0)), (1, .int (nI j)), (2, .int (nI k)), (3, .int (zb false))]) hx hb dX11_note_72 hl (by decide) rfl (fun ls hl => ?_)
    refine lv_iload_n hx hb dX11_note_74 rfl (lv_at hl 5 rfl) ?_
    refine lv_if_eq (tgt := 122) hx hb dX11_note_75 (by decide) (fun c_75 => ?_) (fun c_75 => absurd c_75 (by decide))
    exact K122 _ 0 ((aD S2) + 1) (Nat.lt_succ_self _) (Nat.zero_le _) (by rw [show aD S2 + 1 = aD S2 + dw (nRow false (mRo (aM S2 j k))) from rfl] <;> rfl) (by rw [show aD S2 + 1 = aD S2 + dw (nRow false (mRo (aM S2 j k))) from rfl] <;> rfl) _  (WR_mid (z := false) hR2 hj (by omega) e_2 e_14) _ _ hM hS _ (lv_sub hl [2, 3, 4, 1, 0] rfl)
  · rw [zb_n0] at c_49
    subst c_49
    refine lv_aload hx hb dX11_note_52 (lv_at hl 0 rfl) ?_
    refine mq_get (ci := 13) (v := .int (nI (mRo (aM S2 j k)))) (C := RX8) (T := TX8) (N := 6) hx hb hts nX8 hown hK hM h_7 rfl 4 (by decide) w5 (fun _ h9 => h9) rfl dX11_note_54 ?_
    refine lv_iconst (v := 1) hx hb dX11_note_57 (by decide) ?_
    refine lv_iadd hx hb dX11_note_58 ?_
    rw [show (nI (mRo (aM S2 j k))) + 1 = nI ((mRo (aM S2 j k)) + 1) from nI_add _ _]
    refine lv_goto (tgt := 63) hx hb dX11_note_59 (by decide) ?_
    refine mq_put (ci := 13) (v := .int (nI ((mRo (aM S2 j k)) + 1))) (ty := .int) (C := RX8) (T := TX8) (N := 6) (fs' := [.int (nI (mv (aS S2 k).1 (aS S2 k).2.1 (aS S2 k).2.2.1 (mOd (aM S2 j k)) true)), .int (nI (mTo (aM S2 j k))), .ref (ad 30 j k), .int (zb (mOp (aM S2 j k))), .int (nI ((mRo (aM S2 j k)) + 1)), .int (du (mDu (aM S2 j k)))]) hx hb hts nX8 tyX8 tyX8_ok nmX8 hown hK hM hS h_7 rfl 4 (by decide) w5 (fun _ h9 => h9) rfl (by decide +kernel) rfl rfl (Nat.le_of_ble_eq_true rfl) dX11_note_63 rfl (fun f_17 H locs e_18 hM hS => ?_)
    have h_19 : f_17 (ad 20 0 0) = some (.inr (16, [.int (yT Y), .int (nI (aD S2)), .ref (ad 21 0 0), .ref (ad 23 0 0)])) := mq_n e_18 h_3 (mq_neO h_3 h_7 (by decide))
    have h_20 : f_17 (ad 29 j k) = some (.inr (13, [.int (nI (mv (aS S2 k).1 (aS S2 k).2.1 (aS S2 k).2.2.1 (mOd (aM S2 j k)) true)), .int (nI (mTo (aM S2 j k))), .ref (ad 30 j k), .int (zb (mOp (aM S2 j k))), .int (nI ((mRo (aM S2 j k)) + 1)), .int (du (mDu (aM S2 j k)))])) := mq_s e_18
    refine lv_aload_n hx hb dX11_note_66 rfl (lv_at hl 1 rfl) ?_
    refine mq_get (ci := 16) (v := .int (nI (aD S2))) (C := RX11) (T := TX11) (N := 4) hx hb hts nX11 hown hK hM h_19 rfl 1 (by decide) w6 (fun _ h9 => h9) rfl dX11_note_67 ?_
    refine lv_iconst (v := 1) hx hb dX11_note_70 (by decide) ?_
    refine lv_iadd hx hb dX11_note_71 ?_
    rw [show (nI (aD S2)) + 1 = nI ((aD S2) + 1) from nI_add _ _]
    refine lv_istore (lv' := [(5, .int (nI ((aD S2) + 1))), (4, .ref (ad 29 j k)), (0, .ref (ad 20 0 0)), (1, .int (nI j)), (2, .int (nI k)), (3, .int (zb true))]) hx hb dX11_note_72 hl (by decide) rfl (fun ls hl => ?_)
    refine lv_iload_n hx hb dX11_note_74 rfl (lv_at hl 5 rfl) ?_
    refine lv_if_eq (tgt := 122) hx hb dX11_note_75 (by decide) (fun c_75 => absurd c_75 (by decide)) (fun c_75 => ?_)
    refine lv_iconst (v := 1) hx hb dX11_note_78 (by decide) ?_
    refine lv_istore (lv' := [(6, .int 1), (5, .int (nI ((aD S2) + 1))), (4, .ref (ad 29 j k)), (0, .ref (ad 20 0 0)), (1, .int (nI j)), (2, .int (nI k)), (3, .int (zb true))]) hx hb dX11_note_79 hl (by decide) rfl (fun ls hl => ?_)
    refine lv_iconst (v := 1) hx hb dX11_note_81 (by decide) ?_
    refine lv_istore (lv' := [(7, .int 1), (6, .int 1), (5, .int (nI ((aD S2) + 1))), (4, .ref (ad 29 j k)), (0, .ref (ad 20 0 0)), (1, .int (nI j)), (2, .int (nI k)), (3, .int (zb true))]) hx hb dX11_note_82 hl (by decide) rfl (fun ls hl => ?_)
    have K84 : ∀ (n9 : Nat) (t d : Nat), (5 - t) < n9 → (d = 2 ^ t) → (t ≤ 4) → (t ≤ mRo (aM S2 j k)) → (d ≤ 16) → ∀ (H : Heap) (locs : List Loc), mq_W G.1 A f_17 H → va_S A s.heap H locs → ∀ (ls : Array Slot), lv_has ls 8 [(0, .ref (ad 20 0 0)), (1, .int (nI j)), (2, .int (nI k)), (4, .ref (ad 29 j k)), (6, .int (nI d)), (7, .int (nI (t + 1)))] → W p l e (headSpec wsX11_note ({ frames := 12, cells := 1, slots := 800, locals := 231 } : Room)).room s m ([.ref (ad 20 0 0), .int (nI j), .int (nI k), .int (zb true)] : List Value).toArray below meth c H locs 1 800 (MQ below (mq_Qv G A (fun g => ∃ q9 cap9, lcO ((mAn (aM S2 j k)).length + 1) cap9 ∧ WR G g (adU ad 31 j k q9) S X (nsNote S2 j k true) (yAn Y j k ((yA Y j k).1 + 1, cap9)) O)) ([.ref (ad 20 0 0), .int (nI j), .int (nI k), .int (zb true)] : List Value).toArray s 1 800 A) (F0 m 84 ls []) := by
      intro n9
      induction n9 with
      | zero => intro t d hn9; exact absurd hn9 (Nat.not_lt_zero _)
      | succ n9 ih84 =>
        intro t d hn9 hd ht4 htr hd16 H locs hM hS ls hl
        refine lv_iload hx hb dX11_note_84 (lv_at hl 5 rfl) ?_
        refine lv_aload hx hb dX11_note_86 (lv_at hl 3 rfl) ?_
        refine mq_get (ci := 13) (v := .int (nI ((mRo (aM S2 j k)) + 1))) (C := RX8) (T := TX8) (N := 6) hx hb hts nX8 hown hK hM h_20 rfl 4 (by decide) w5 (fun _ h9 => h9) rfl dX11_note_88 ?_
        refine lv_icmp_ge (tgt := 113) hx hb dX11_note_91 (by decide) (fun c_91 => ?_) (fun c_91 => ?_)
        · replace c_91 : nI ((mRo (aM S2 j k)) + 1) ≤ nI (t + 1) := c_91
          rw [nI_leI (by omega) (by omega)] at c_91
          refine lv_aload_n hx hb dX11_note_113 rfl (lv_at hl 0 rfl) ?_
          refine mq_get (ci := 16) (v := .int (nI (aD S2))) (C := RX11) (T := TX11) (N := 4) hx hb hts nX11 hown hK hM h_19 rfl 1 (by decide) w6 (fun _ h9 => h9) rfl dX11_note_114 ?_
          refine lv_iload hx hb dX11_note_117 (lv_at hl 4 rfl) ?_
          refine lv_iadd hx hb dX11_note_119 ?_
          rw [show (nI (aD S2)) + (nI d) = nI ((aD S2) + d) from nI_add _ _]
          refine lv_istore (lv' := [(5, .int (nI ((aD S2) + d))), (0, .ref (ad 20 0 0)), (1, .int (nI j)), (2, .int (nI k)), (4, .ref (ad 29 j k)), (6, .int (nI d)), (7, .int (nI (t + 1)))]) hx hb dX11_note_120 hl (by decide) rfl (fun ls hl => ?_)
          have hw9 : (aD S2) + d = aD S2 + dw (nRow true (mRo (aM S2 j k))) := by rw [hd, show dw (nRow true (mRo (aM S2 j k))) = 2 ^ min (mRo (aM S2 j k)) 4 from dw_S, show min (mRo (aM S2 j k)) 4 = t by omega]
          exact K122 _ 0 ((aD S2) + d) (Nat.lt_succ_self _) (Nat.zero_le _) (by rw [hw9] <;> rfl) (by rw [hw9] <;> rfl) _  (WR_mid (z := true) hR2 hj (by omega) e_2 e_18) _ _ hM hS _ (lv_sub hl [1, 2, 3, 4, 0] rfl)
        · replace c_91 : ¬ nI ((mRo (aM S2 j k)) + 1) ≤ nI (t + 1) := c_91
          rw [nI_leI (by omega) (by omega)] at c_91
          refine lv_iload hx hb dX11_note_94 (lv_at hl 4 rfl) ?_
          refine lv_bipush (v := 16) hx hb dX11_note_96 (by decide) ?_
          refine lv_icmp_ge (tgt := 113) hx hb dX11_note_98 (by decide) (fun c_98 => ?_) (fun c_98 => ?_)
          · replace c_98 : nI 16 ≤ nI d := c_98
            rw [nI_leI (by omega) (by omega)] at c_98
            refine lv_aload_n hx hb dX11_note_113 rfl (lv_at hl 0 rfl) ?_
            refine mq_get (ci := 16) (v := .int (nI (aD S2))) (C := RX11) (T := TX11) (N := 4) hx hb hts nX11 hown hK hM h_19 rfl 1 (by decide) w6 (fun _ h9 => h9) rfl dX11_note_114 ?_
            refine lv_iload hx hb dX11_note_117 (lv_at hl 4 rfl) ?_
            refine lv_iadd hx hb dX11_note_119 ?_
            rw [show (nI (aD S2)) + (nI d) = nI ((aD S2) + d) from nI_add _ _]
            refine lv_istore (lv' := [(5, .int (nI ((aD S2) + d))), (0, .ref (ad 20 0 0)), (1, .int (nI j)), (2, .int (nI k)), (4, .ref (ad 29 j k)), (6, .int (nI d)), (7, .int (nI (t + 1)))]) hx hb dX11_note_120 hl (by decide) rfl (fun ls hl => ?_)
            have hw9 : (aD S2) + d = aD S2 + dw (nRow true (mRo (aM S2 j k))) := by rw [hd, show dw (nRow true (mRo (aM S2 j k))) = 2 ^ min (mRo (aM S2 j k)) 4 from dw_S, show min (mRo (aM S2 j k)) 4 = t by (have : t = 4 := Nat.le_antisymm ht4 (Nat.le_of_not_lt fun q => by have h9 := Nat.pow_le_pow_right (n := 2) (by decide) (show t ≤ 3 by omega); rw [← hd] at h9; have h8 : (2 : Nat) ^ 3 = 8 := rfl; omega)); omega]
            exact K122 _ 0 ((aD S2) + d) (Nat.lt_succ_self _) (Nat.zero_le _) (by rw [hw9] <;> rfl) (by rw [hw9] <;> rfl) _  (WR_mid (z := true) hR2 hj (by omega) e_2 e_18) _ _ hM hS _ (lv_sub hl [1, 2, 3, 4, 0] rfl)
          · replace c_98 : ¬ nI 16 ≤ nI d := c_98
            rw [nI_leI (by omega) (by omega)] at c_98
            refine lv_iload hx hb dX11_note_101 (lv_at hl 4 rfl) ?_
            refine lv_iconst (v := 2) hx hb dX11_note_103 (by decide) ?_
            refine lv_imul hx hb dX11_note_104 ?_
            rw [show (nI d) * 2 = nI (d * 2) from pk_mul _ _]
            refine lv_istore (lv' := [(6, .int (nI (d * 2))), (0, .ref (ad 20 0 0)), (1, .int (nI j)), (2, .int (nI k)), (4, .ref (ad 29 j k)), (7, .int (nI (t + 1)))]) hx hb dX11_note_105 hl (by decide) rfl (fun ls hl => ?_)
            refine lv_iinc (v := nI ((t + 1) + 1)) (lv' := [(7, .int (nI ((t + 1) + 1))), (6, .int (nI (d * 2))), (0, .ref (ad 20 0 0)), (1, .int (nI j)), (2, .int (nI k)), (4, .ref (ad 29 j k))]) hx hb dX11_note_107 hl (k := 5) rfl (nI_add _ _) (by decide) rfl (fun ls hl => ?_)
            refine lv_goto (tgt := 84) hx hb dX11_note_110 (by decide) ?_
            have ht5 : t + 1 ≤ 4 := by (have h9 : t ≠ 4 := fun q => (by rw [q] at hd; have h8 : (2 : Nat) ^ 4 = 16 := rfl; omega)); omega
            exact ih84 (t + 1) (d * 2) (by omega) (by rw [hd]; rfl) (ht5) (by omega) (by rw [hd]; exact p2_le ht5) _ _ hM hS _ (lv_sub hl [2, 3, 4, 5, 1, 0] rfl)
    exact K84 _ 0 1 (Nat.lt_succ_self _) (rfl) (by omega) (Nat.zero_le _) (by omega) _ _ hM hS _ (lv_sub hl [4, 5, 6, 3, 1, 0] rfl)
