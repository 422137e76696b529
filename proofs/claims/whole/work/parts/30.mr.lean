/-! THE REFERENCE: its cells, its bounds, its small methods -/
section WRM
variable {G : mq_G} {f : mq_F} {ad : AD} {S : AT} {X : CX} {S2 : AT} {Y : MX} {O : OX} {j k : Nat}
theorem t20 : cT G ad S X S2 Y O 20 0 0 = some (.inr (16, [.int (yT Y), .int (nI (aD S2)), .ref (ad 21 0 0), .ref (ad 23 0 0)])) := rfl
theorem t21 : cT G ad S X S2 Y O 21 0 0 = some (cLs (yS Y).1 (lsD G (yS Y).2 (ad 22 0 0)) (aN S2)) := rfl
theorem t22 (h1 : (yS Y).2 ≠ 0) : cT G ad S X S2 Y O 22 0 0 = some (cRf (G.2 8) (yS Y).2 (rf_of (aN S2) (fun i => ad 25 i 0))) := if_pos ⟨h1, rfl, rfl⟩
theorem t23 : cT G ad S X S2 Y O 23 0 0 = some (cLs (yL Y).1 (lsD G (yL Y).2 (ad 24 0 0)) (aL S2)) := rfl
theorem t24 (h1 : (yL Y).2 ≠ 0) : cT G ad S X S2 Y O 24 0 0 = some (cRf (G.2 8) (yL Y).2 (rf_of (aL S2) (fun i => ad 27 i 0))) := if_pos ⟨h1, rfl, rfl⟩
theorem t25 (h1 : j < aN S2) : cT G ad S X S2 Y O 25 j 0 = some (.inr (15, [.int (nI (aS S2 j).1), .int (nI (aS S2 j).2.1), .int (nI (aS S2 j).2.2.1), .ref (ad 26 j 0)])) := if_pos ⟨h1, rfl⟩
theorem t26 (h1 : j < aN S2) : cT G ad S X S2 Y O 26 j 0 = some (cBo G (aS S2 j).2.2.2) := if_pos ⟨h1, rfl⟩
theorem t27 (h1 : j < aL S2) : cT G ad S X S2 Y O 27 j 0 = some (.inr (14, [.ref (ad 28 j 0), .ref (ad 32 j 0), va_rf (oMap (lEx (aE S2 j)) (ad 35 j 0)), .int (nI (exN (lEx (aE S2 j)) (yO Y j)).1), .int (nI (exN (lEx (aE S2 j)) (yO Y j)).2.1), .int (nI (exN (lEx (aE S2 j)) (yO Y j)).2.2), va_rf (oMap (lWs (aE S2 j)) (ad 36 j 0)), va_rf (oMap (lWs (aE S2 j)) (ad 37 j 0))])) := if_pos ⟨h1, rfl⟩
theorem t28 (h1 : j < aL S2) : cT G ad S X S2 Y O 28 j 0 = some (cRf (G.2 7) 10 (rf_of 10 (fun i => ad 29 j i))) := if_pos ⟨h1, rfl⟩
theorem t29 (h1 : j < aL S2) (h2 : k < 10) : cT G ad S X S2 Y O 29 j k = some (.inr (13, [.int (nI (mOd (aM S2 j k))), .int (nI (mTo (aM S2 j k))), .ref (ad 30 j k), .int (zb (mOp (aM S2 j k))), .int (nI (mRo (aM S2 j k))), .int (du (mDu (aM S2 j k)))])) := if_pos ⟨h1, h2⟩
theorem t30 (h1 : j < aL S2) (h2 : k < 10) : cT G ad S X S2 Y O 30 j k = some (cLs (yA Y j k).1 (lsD G (yA Y j k).2 (ad 31 j k)) (mAn (aM S2 j k)).length) := if_pos ⟨h1, h2⟩
theorem t31 (h1 : (yA Y j k).2 ≠ 0) (h2 : j < aL S2) (h3 : k < 10) : cT G ad S X S2 Y O 31 j k = some (cRf (G.2 8) (yA Y j k).2 (rf_of (mAn (aM S2 j k)).length (fun i => sB G ((mAn (aM S2 j k)).getD i false)))) := if_pos ⟨h1, h2, h3⟩
theorem t32 (h1 : j < aL S2) : cT G ad S X S2 Y O 32 j 0 = some (cLs (yM Y j).1 (lsD G (yM Y j).2 (ad 33 j 0)) (lMd (aE S2 j)).length) := if_pos ⟨h1, rfl⟩
theorem t33 (h1 : (yM Y j).2 ≠ 0) (h2 : j < aL S2) : cT G ad S X S2 Y O 33 j 0 = some (cRf (G.2 8) (yM Y j).2 (rf_of (lMd (aE S2 j)).length (fun i => ad 34 j i))) := if_pos ⟨h1, h2, rfl⟩
theorem t34 (h1 : j < aL S2) (h2 : k < (lMd (aE S2 j)).length) : cT G ad S X S2 Y O 34 j k = some (cIn G 4 (eqF (ex_eq ((lMd (aE S2 j)).getD k 0)))) := if_pos ⟨h1, h2⟩
theorem t35 (h1 : j < aL S2) {e : exT} (he : lEx (aE S2 j) = some e) : cT G ad S X S2 Y O 35 j 0 = some (cIn G 4 (eqF e.2.2.1)) := (if_pos ⟨h1, rfl⟩).trans (by rw [he]; rfl)
theorem t36 (h1 : j < aL S2) {w : eqT × eqT} (he : lWs (aE S2 j) = some w) : cT G ad S X S2 Y O 36 j 0 = some (cIn G 4 (eqF w.1)) := (if_pos ⟨h1, rfl⟩).trans (by rw [he]; rfl)
theorem t37 (h1 : j < aL S2) {w : eqT × eqT} (he : lWs (aE S2 j) = some w) : cT G ad S X S2 Y O 37 j 0 = some (cIn G 4 (eqF w.2)) := (if_pos ⟨h1, rfl⟩).trans (by rw [he]; rfl)
theorem t38 : cT G ad S X S2 Y O 38 0 0 = some (.inl (G.2 1, 1, .inr (.inl O.1))) := rfl
theorem t39 : cT G ad S X S2 Y O 39 0 0 = some (.inl (G.2 9, 1, .inr (.inr (.inr (.inl O.2))))) := rfl
theorem t121 (h : (yS Y).2 ≠ 0) : cT G ad S X S2 Y O 21 0 0 = some (cLs (yS Y).1 (ad 22 0 0) (aN S2)) := t21.trans (by rw [lsD_1 h])
theorem t123 (h : (yL Y).2 ≠ 0) : cT G ad S X S2 Y O 23 0 0 = some (cLs (yL Y).1 (ad 24 0 0) (aL S2)) := t23.trans (by rw [lsD_1 h])
theorem t130 (h : (yA Y j k).2 ≠ 0) (h1 : j < aL S2) (h2 : k < 10) : cT G ad S X S2 Y O 30 j k = some (cLs (yA Y j k).1 (ad 31 j k) (mAn (aM S2 j k)).length) := (t30 h1 h2).trans (by rw [lsD_1 h])
theorem t132 (h : (yM Y j).2 ≠ 0) (h1 : j < aL S2) : cT G ad S X S2 Y O 32 j 0 = some (cLs (yM Y j).1 (ad 33 j 0) (lMd (aE S2 j)).length) := (t32 h1).trans (by rw [lsD_1 h])
end WRM
abbrev yThr (Y : MX) (t : Int32) : MX := (t, Y.2)
/-- a list's row's length: as it grows -/
def lcO (n cap : Nat) : Prop := n ≤ cap ∧ cap ≤ 800
def mOK (S2 : AT) (Y : MX) (T : Nat) : Prop := (∃ X2, cOK S2 X2 T) ∧ (aN S2 ≤ (yS Y).2 ∧ ((yS Y).2 = 0 ∨ (yS Y).2 = 10)) ∧ (aL S2 ≤ (yL Y).2 ∧ ((yL Y).2 = 0 ∨ (yL Y).2 = 10)) ∧ (∀ j k, j < aL S2 → k < 10 → lcO (mAn (aM S2 j k)).length (yA Y j k).2) ∧ ∀ j, j < aL S2 → lcO (lMd (aE S2 j)).length (yM Y j).2
theorem mOK.thr {S2 : AT} {Y : MX} {T : Nat} (h : mOK S2 Y T) (t : Int32) : mOK S2 (yThr Y t) T := h
/-- what fails leaves recorded -/
def fT (z : Bool) (t e : Int32) : Int32 := if z = true ∧ t = 0 then e else t
def inB (v lo hi : Int32) : Bool := decide (lo ≤ v ∧ v ≤ hi)
theorem inB_vI {v : Int32} {n : Nat} (hn : n ≤ 2000) : inB v 0 (nI n - 1) = vI v n := by
  unfold inB vI
  congr 1
  apply propext
  have h1 : (nI n - 1).toInt = (n : Int) - 1 := by
    by_cases h : n = 0
    · subst h; decide
    · rw [show nI n - 1 = nI (n - 1) from pk_sub (a := n) (b := 1) (by omega), nI_toInt (by omega)]; omega
  rw [Int32.le_iff_toInt_le, Int32.le_iff_toInt_le, h1]
  show (0 : Int) ≤ _ ∧ _ ↔ _
  omega

set_option maxHeartbeats 2000000 in
theorem cT_yt {G : mq_G} {ad : AD} {S : AT} {X : CX} {S2 : AT} {Y : MX} {O : OX} (t : Int32) : cU (cT G ad S X S2 Y O) 20 0 0 (.inr (16, [.int t, .int (nI (aD S2)), .ref (ad 21 0 0), .ref (ad 23 0 0)])) = cT G ad S X S2 (yThr Y t) O := by
  funext a j k
  exact (match a with
    | 0 => by first | rfl | (simp [aN, aL, aD, aS, aM, aE, sTop, sSk, sMa, sLe, xW, xLn, xOl, xB, xSo, xR, xK, sW, sRi, sXp, lEx, lWs, lMd, cU, cT, adU, fU, fU2]; done)
    | 1 => by first | rfl | (simp [aN, aL, aD, aS, aM, aE, sTop, sSk, sMa, sLe, xW, xLn, xOl, xB, xSo, xR, xK, sW, sRi, sXp, lEx, lWs, lMd, cU, cT, adU, fU, fU2]; done)
    | 2 => by first | rfl | (simp [aN, aL, aD, aS, aM, aE, sTop, sSk, sMa, sLe, xW, xLn, xOl, xB, xSo, xR, xK, sW, sRi, sXp, lEx, lWs, lMd, cU, cT, adU, fU, fU2]; done)
    | 3 => by first | rfl | (simp [aN, aL, aD, aS, aM, aE, sTop, sSk, sMa, sLe, xW, xLn, xOl, xB, xSo, xR, xK, sW, sRi, sXp, lEx, lWs, lMd, cU, cT, adU, fU, fU2]; done)
    | 4 => by first | rfl | (simp [aN, aL, aD, aS, aM, aE, sTop, sSk, sMa, sLe, xW, xLn, xOl, xB, xSo, xR, xK, sW, sRi, sXp, lEx, lWs, lMd, cU, cT, adU, fU, fU2]; done)
    | 5 => by first | rfl | (simp [aN, aL, aD, aS, aM, aE, sTop, sSk, sMa, sLe, xW, xLn, xOl, xB, xSo, xR, xK, sW, sRi, sXp, lEx, lWs, lMd, cU, cT, adU, fU, fU2]; done)
    | 6 => by first | rfl | (simp [aN, aL, aD, aS, aM, aE, sTop, sSk, sMa, sLe, xW, xLn, xOl, xB, xSo, xR, xK, sW, sRi, sXp, lEx, lWs, lMd, cU, cT, adU, fU, fU2]; done)
    | 7 => by first | rfl | (simp [aN, aL, aD, aS, aM, aE, sTop, sSk, sMa, sLe, xW, xLn, xOl, xB, xSo, xR, xK, sW, sRi, sXp, lEx, lWs, lMd, cU, cT, adU, fU, fU2]; done)
    | 8 => by first | rfl | (simp [aN, aL, aD, aS, aM, aE, sTop, sSk, sMa, sLe, xW, xLn, xOl, xB, xSo, xR, xK, sW, sRi, sXp, lEx, lWs, lMd, cU, cT, adU, fU, fU2]; done)
    | 9 => by first | rfl | (simp [aN, aL, aD, aS, aM, aE, sTop, sSk, sMa, sLe, xW, xLn, xOl, xB, xSo, xR, xK, sW, sRi, sXp, lEx, lWs, lMd, cU, cT, adU, fU, fU2]; done)
    | 10 => by first | rfl | (simp [aN, aL, aD, aS, aM, aE, sTop, sSk, sMa, sLe, xW, xLn, xOl, xB, xSo, xR, xK, sW, sRi, sXp, lEx, lWs, lMd, cU, cT, adU, fU, fU2]; done)
    | 11 => by first | rfl | (simp [aN, aL, aD, aS, aM, aE, sTop, sSk, sMa, sLe, xW, xLn, xOl, xB, xSo, xR, xK, sW, sRi, sXp, lEx, lWs, lMd, cU, cT, adU, fU, fU2]; done)
    | 12 => by first | rfl | (simp [aN, aL, aD, aS, aM, aE, sTop, sSk, sMa, sLe, xW, xLn, xOl, xB, xSo, xR, xK, sW, sRi, sXp, lEx, lWs, lMd, cU, cT, adU, fU, fU2]; done)
    | 13 => by first | rfl | (simp [aN, aL, aD, aS, aM, aE, sTop, sSk, sMa, sLe, xW, xLn, xOl, xB, xSo, xR, xK, sW, sRi, sXp, lEx, lWs, lMd, cU, cT, adU, fU, fU2]; done)
    | 14 => by first | rfl | (simp [aN, aL, aD, aS, aM, aE, sTop, sSk, sMa, sLe, xW, xLn, xOl, xB, xSo, xR, xK, sW, sRi, sXp, lEx, lWs, lMd, cU, cT, adU, fU, fU2]; done)
    | 15 => by first | rfl | (simp [aN, aL, aD, aS, aM, aE, sTop, sSk, sMa, sLe, xW, xLn, xOl, xB, xSo, xR, xK, sW, sRi, sXp, lEx, lWs, lMd, cU, cT, adU, fU, fU2]; done)
    | 16 => by first | rfl | (simp [aN, aL, aD, aS, aM, aE, sTop, sSk, sMa, sLe, xW, xLn, xOl, xB, xSo, xR, xK, sW, sRi, sXp, lEx, lWs, lMd, cU, cT, adU, fU, fU2]; done)
    | 17 => by first | rfl | (simp [aN, aL, aD, aS, aM, aE, sTop, sSk, sMa, sLe, xW, xLn, xOl, xB, xSo, xR, xK, sW, sRi, sXp, lEx, lWs, lMd, cU, cT, adU, fU, fU2]; done)
    | 18 => by first | rfl | (simp [aN, aL, aD, aS, aM, aE, sTop, sSk, sMa, sLe, xW, xLn, xOl, xB, xSo, xR, xK, sW, sRi, sXp, lEx, lWs, lMd, cU, cT, adU, fU, fU2]; done)
    | 19 => by first | rfl | (simp [aN, aL, aD, aS, aM, aE, sTop, sSk, sMa, sLe, xW, xLn, xOl, xB, xSo, xR, xK, sW, sRi, sXp, lEx, lWs, lMd, cU, cT, adU, fU, fU2]; done)
    | 20 => by
        by_cases h : j = 0 ∧ k = 0
        · obtain ⟨rfl, rfl⟩ := h; rfl
        · simp [cU, cT, h]
    | 21 => by first | rfl | (simp [aN, aL, aD, aS, aM, aE, sTop, sSk, sMa, sLe, xW, xLn, xOl, xB, xSo, xR, xK, sW, sRi, sXp, lEx, lWs, lMd, cU, cT, adU, fU, fU2]; done)
    | 22 => by first | rfl | (simp [aN, aL, aD, aS, aM, aE, sTop, sSk, sMa, sLe, xW, xLn, xOl, xB, xSo, xR, xK, sW, sRi, sXp, lEx, lWs, lMd, cU, cT, adU, fU, fU2]; done)
    | 23 => by first | rfl | (simp [aN, aL, aD, aS, aM, aE, sTop, sSk, sMa, sLe, xW, xLn, xOl, xB, xSo, xR, xK, sW, sRi, sXp, lEx, lWs, lMd, cU, cT, adU, fU, fU2]; done)
    | 24 => by first | rfl | (simp [aN, aL, aD, aS, aM, aE, sTop, sSk, sMa, sLe, xW, xLn, xOl, xB, xSo, xR, xK, sW, sRi, sXp, lEx, lWs, lMd, cU, cT, adU, fU, fU2]; done)
    | 25 => by first | rfl | (simp [aN, aL, aD, aS, aM, aE, sTop, sSk, sMa, sLe, xW, xLn, xOl, xB, xSo, xR, xK, sW, sRi, sXp, lEx, lWs, lMd, cU, cT, adU, fU, fU2]; done)
    | 26 => by first | rfl | (simp [aN, aL, aD, aS, aM, aE, sTop, sSk, sMa, sLe, xW, xLn, xOl, xB, xSo, xR, xK, sW, sRi, sXp, lEx, lWs, lMd, cU, cT, adU, fU, fU2]; done)
    | 27 => by first | rfl | (simp [aN, aL, aD, aS, aM, aE, sTop, sSk, sMa, sLe, xW, xLn, xOl, xB, xSo, xR, xK, sW, sRi, sXp, lEx, lWs, lMd, cU, cT, adU, fU, fU2]; done)
    | 28 => by first | rfl | (simp [aN, aL, aD, aS, aM, aE, sTop, sSk, sMa, sLe, xW, xLn, xOl, xB, xSo, xR, xK, sW, sRi, sXp, lEx, lWs, lMd, cU, cT, adU, fU, fU2]; done)
    | 29 => by first | rfl | (simp [aN, aL, aD, aS, aM, aE, sTop, sSk, sMa, sLe, xW, xLn, xOl, xB, xSo, xR, xK, sW, sRi, sXp, lEx, lWs, lMd, cU, cT, adU, fU, fU2]; done)
    | 30 => by first | rfl | (simp [aN, aL, aD, aS, aM, aE, sTop, sSk, sMa, sLe, xW, xLn, xOl, xB, xSo, xR, xK, sW, sRi, sXp, lEx, lWs, lMd, cU, cT, adU, fU, fU2]; done)
    | 31 => by first | rfl | (simp [aN, aL, aD, aS, aM, aE, sTop, sSk, sMa, sLe, xW, xLn, xOl, xB, xSo, xR, xK, sW, sRi, sXp, lEx, lWs, lMd, cU, cT, adU, fU, fU2]; done)
    | 32 => by first | rfl | (simp [aN, aL, aD, aS, aM, aE, sTop, sSk, sMa, sLe, xW, xLn, xOl, xB, xSo, xR, xK, sW, sRi, sXp, lEx, lWs, lMd, cU, cT, adU, fU, fU2]; done)
    | 33 => by first | rfl | (simp [aN, aL, aD, aS, aM, aE, sTop, sSk, sMa, sLe, xW, xLn, xOl, xB, xSo, xR, xK, sW, sRi, sXp, lEx, lWs, lMd, cU, cT, adU, fU, fU2]; done)
    | 34 => by first | rfl | (simp [aN, aL, aD, aS, aM, aE, sTop, sSk, sMa, sLe, xW, xLn, xOl, xB, xSo, xR, xK, sW, sRi, sXp, lEx, lWs, lMd, cU, cT, adU, fU, fU2]; done)
    | 35 => by first | rfl | (simp [aN, aL, aD, aS, aM, aE, sTop, sSk, sMa, sLe, xW, xLn, xOl, xB, xSo, xR, xK, sW, sRi, sXp, lEx, lWs, lMd, cU, cT, adU, fU, fU2]; done)
    | 36 => by first | rfl | (simp [aN, aL, aD, aS, aM, aE, sTop, sSk, sMa, sLe, xW, xLn, xOl, xB, xSo, xR, xK, sW, sRi, sXp, lEx, lWs, lMd, cU, cT, adU, fU, fU2]; done)
    | 37 => by first | rfl | (simp [aN, aL, aD, aS, aM, aE, sTop, sSk, sMa, sLe, xW, xLn, xOl, xB, xSo, xR, xK, sW, sRi, sXp, lEx, lWs, lMd, cU, cT, adU, fU, fU2]; done)
    | 38 => by first | rfl | (simp [aN, aL, aD, aS, aM, aE, sTop, sSk, sMa, sLe, xW, xLn, xOl, xB, xSo, xR, xK, sW, sRi, sXp, lEx, lWs, lMd, cU, cT, adU, fU, fU2]; done)
    | 39 => by first | rfl | (simp [aN, aL, aD, aS, aM, aE, sTop, sSk, sMa, sLe, xW, xLn, xOl, xB, xSo, xR, xK, sW, sRi, sXp, lEx, lWs, lMd, cU, cT, adU, fU, fU2]; done)
    | n + 40 => by first | rfl | simp [cU, cT])

set_option maxHeartbeats 4000000 in
set_option maxRecDepth 100000 in
theorem c_X11_thrown (l : Launch) (G : mq_G) (A : Nat → Prop) (f : mq_F) (x : Nat) (t dy : Int32) (sr lr : Nat) : Met l yX11_thrown wsX11_thrown ({ frames := 0, cells := 0, slots := 0, locals := 0 } : Room) (mq_Pc G A f (f x = some (.inr (16, [.int t, .int dy, .ref sr, .ref lr]))) [.ref x]) (mq_Qi G A (fun r g => f = g ∧ r = t)) 0 0 A := by
  refine Met.ofW (cc := cX11_thrown) (maxL := 1) (ret := (some .int)) (by decide) rfl ?_
  intro p e s m args below meth c s₁ B hml hv
  obtain ⟨rfl, ⟨hK, hZ, hM, hA⟩, hp⟩ := hv
  have hx := B.exec
  have hb := B.bytes
  have hr := B.returns
  have hts := atoms_spec (ws := wsX11_thrown) B.pre
  have hown : s.vm.findClass RX11 = some m.cls := findClass_of_methodNamed B.named
  have hlocks := B.notSynchronized
  have hS : va_S A s.heap s.heap [] := va_S.rf
  have hl := lv_entry ([.ref x]) (n := 1) (Nat.le_of_ble_eq_true rfl)
  rw [lg_entry_eq]
  generalize (lg_sl ([.ref x]) ++ List.replicate (1 - (lg_sl ([.ref x])).length) Slot.unset).toArray = ls at hl ⊢
  have hl : lv_has ls 1 [(0, .ref x)] := hl
  have w0 := hts (.fieldLink RX11 19 "TutorlightModel" "thrown" "I") (List.mem_of_getElem? (i := 1) rfl)
  have nX11 : ∀ w ∈ wsX110, w ∈ wsX11_thrown := fun _ h => List.mem_cons_of_mem _ (List.mem_append_right _ h)
  refine lv_aload_n hx hb dX11_thrown_0 rfl (lv_at hl 0 rfl) ?_
  refine mq_get (ci := 16) (v := .int t) (C := RX11) (T := TX11) (N := 4) hx hb hts nX11 hown hK hM hp rfl 0 (by decide) w0 (fun _ h9 => h9) rfl dX11_thrown_1 ?_
  exact mq_iret (v := t) hx hb hr hlocks hM hS (⟨rfl, rfl⟩) dX11_thrown_4

set_option maxHeartbeats 4000000 in
set_option maxRecDepth 100000 in
theorem c_X11_in (l : Launch) (G : mq_G) (A : Nat → Prop) (f : mq_F) (v lo hi : Int32) : Met l yX11_in wsX11_in ({ frames := 0, cells := 0, slots := 0, locals := 0 } : Room) (mq_Pc G A f (True) [.int v, .int lo, .int hi]) (mq_Qi G A (fun r g => f = g ∧ r = zb (inB v lo hi))) 0 0 A := by
  refine Met.ofW (cc := cX11_in) (maxL := 3) (ret := (some .boolean)) (by decide) rfl ?_
  intro p e s m args below meth c s₁ B hml hv
  obtain ⟨rfl, ⟨hK, hZ, hM, hA⟩, hp⟩ := hv
  have hx := B.exec
  have hb := B.bytes
  have hr := B.returns
  have hts := atoms_spec (ws := wsX11_in) B.pre
  have hown : s.vm.findClass RX11 = some m.cls := findClass_of_methodNamed B.named
  have hlocks := B.notSynchronized
  have hS : va_S A s.heap s.heap [] := va_S.rf
  have hl := lv_entry ([.int v, .int lo, .int hi]) (n := 3) (Nat.le_of_ble_eq_true rfl)
  rw [lg_entry_eq]
  generalize (lg_sl ([.int v, .int lo, .int hi]) ++ List.replicate (3 - (lg_sl ([.int v, .int lo, .int hi])).length) Slot.unset).toArray = ls at hl ⊢
  have hl : lv_has ls 3 [(0, .int v), (1, .int lo), (2, .int hi)] := hl
  refine lv_iload_n hx hb dX11_in_0 rfl (lv_at hl 0 rfl) ?_
  refine lv_iload_n hx hb dX11_in_1 rfl (lv_at hl 1 rfl) ?_
  refine lv_icmp_lt (tgt := 14) hx hb dX11_in_2 (by decide) (fun c_2 => ?_) (fun c_2 => ?_)
  · refine lv_iconst (v := 0) hx hb dX11_in_14 (by decide) ?_
    exact mq_zret (v := 0) hx hb hr (rfl) hlocks hM hS (⟨rfl, (congrArg zb (show inB v lo hi = false from decide_eq_false fun q => absurd c_2 (Int32.not_lt.mpr q.1))).symm⟩) dX11_in_15
  · refine lv_iload_n hx hb dX11_in_5 rfl (lv_at hl 0 rfl) ?_
    refine lv_iload_n hx hb dX11_in_6 rfl (lv_at hl 2 rfl) ?_
    refine lv_icmp_gt (tgt := 14) hx hb dX11_in_7 (by decide) (fun c_7 => ?_) (fun c_7 => ?_)
    · refine lv_iconst (v := 0) hx hb dX11_in_14 (by decide) ?_
      exact mq_zret (v := 0) hx hb hr (rfl) hlocks hM hS (⟨rfl, (congrArg zb (show inB v lo hi = false from decide_eq_false fun q => absurd c_7 (Int32.not_lt.mpr q.2))).symm⟩) dX11_in_15
    · refine lv_iconst (v := 1) hx hb dX11_in_10 (by decide) ?_
      refine lv_goto (tgt := 15) hx hb dX11_in_11 (by decide) ?_
      exact mq_zret (v := 1) hx hb hr (rfl) hlocks hM hS (⟨rfl, (congrArg zb (show inB v lo hi = true from decide_eq_true ⟨Int32.not_lt.mp c_2, Int32.not_lt.mp c_7⟩)).symm⟩) dX11_in_15

set_option maxHeartbeats 4000000 in
set_option maxRecDepth 100000 in
theorem c_X11_fails (l : Launch) (G : mq_G) (A : Nat → Prop) (f : mq_F) (x : Nat) (z : Bool) (e9 t dy : Int32) (sr lr : Nat) : Met l yX11_fails wsX11_fails ({ frames := 0, cells := 0, slots := 0, locals := 0 } : Room) (mq_Pc G A f (f x = some (.inr (16, [.int t, .int dy, .ref sr, .ref lr]))) [.ref x, .int (zb z), .int e9]) (mq_Qi G A (fun r g => g = mq_up f x (.inr (16, [.int (fT z t e9), .int dy, .ref sr, .ref lr])) ∧ r = zb (decide (fT z t e9 ≠ 0)))) 0 0 A := by
  refine Met.ofW (cc := cX11_fails) (maxL := 3) (ret := (some .boolean)) (by decide) rfl ?_
  intro p e s m args below meth c s₁ B hml hv
  obtain ⟨rfl, ⟨hK, hZ, hM, hA⟩, hp⟩ := hv
  have hx := B.exec
  have hb := B.bytes
  have hr := B.returns
  have hts := atoms_spec (ws := wsX11_fails) B.pre
  have hown : s.vm.findClass RX11 = some m.cls := findClass_of_methodNamed B.named
  have hlocks := B.notSynchronized
  have hS : va_S A s.heap s.heap [] := va_S.rf
  have hl := lv_entry ([.ref x, .int (zb z), .int e9]) (n := 3) (Nat.le_of_ble_eq_true rfl)
  rw [lg_entry_eq]
  generalize (lg_sl ([.ref x, .int (zb z), .int e9]) ++ List.replicate (3 - (lg_sl ([.ref x, .int (zb z), .int e9])).length) Slot.unset).toArray = ls at hl ⊢
  have hl : lv_has ls 3 [(0, .ref x), (1, .int (zb z)), (2, .int e9)] := hl
  have w0 := hts (.fieldLink RX11 19 "TutorlightModel" "thrown" "I") (List.mem_of_getElem? (i := 1) rfl)
  have nX11 : ∀ w ∈ wsX110, w ∈ wsX11_fails := fun _ h => List.mem_cons_of_mem _ (List.mem_append_right _ h)
  refine lv_iload_n hx hb dX11_fails_0 rfl (lv_at hl 1 rfl) ?_
  refine lv_if_eq (tgt := 16) hx hb dX11_fails_1 (by decide) (fun c_1 => ?_) (fun c_1 => ?_)
  · replace c_1 : zb z = 0 := c_1
    rw [zb_0] at c_1
    refine lv_aload_n hx hb dX11_fails_16 rfl (lv_at hl 0 rfl) ?_
    refine mq_get (ci := 16) (v := .int t) (C := RX11) (T := TX11) (N := 4) hx hb hts nX11 hown hK hM hp rfl 0 (by decide) w0 (fun _ h9 => h9) rfl dX11_fails_17 ?_
    refine lv_if_eq (tgt := 27) hx hb dX11_fails_20 (by decide) (fun c_20 => ?_) (fun c_20 => ?_)
    · refine lv_iconst (v := 0) hx hb dX11_fails_27 (by decide) ?_
      exact mq_zret (v := 0) hx hb hr (rfl) hlocks hM hS (⟨by rw [show fT z t e9 = t from if_neg (fun q => absurd (c_1.symm.trans q.1) (by decide))]; exact (mq_id hp).symm, by rw [show fT z t e9 = t from if_neg (fun q => absurd (c_1.symm.trans q.1) (by decide)), decide_eq_false (fun h9 => h9 c_20)]; rfl⟩) dX11_fails_28
    · refine lv_iconst (v := 1) hx hb dX11_fails_23 (by decide) ?_
      refine lv_goto (tgt := 28) hx hb dX11_fails_24 (by decide) ?_
      exact mq_zret (v := 1) hx hb hr (rfl) hlocks hM hS (⟨by rw [show fT z t e9 = t from if_neg (fun q => absurd (c_1.symm.trans q.1) (by decide))]; exact (mq_id hp).symm, by rw [show fT z t e9 = t from if_neg (fun q => absurd (c_1.symm.trans q.1) (by decide)), decide_eq_true c_20]; rfl⟩) dX11_fails_28
  · replace c_1 : ¬ zb z = 0 := c_1
    rw [zb_n0] at c_1
    refine lv_aload_n hx hb dX11_fails_4 rfl (lv_at hl 0 rfl) ?_
    refine mq_get (ci := 16) (v := .int t) (C := RX11) (T := TX11) (N := 4) hx hb hts nX11 hown hK hM hp rfl 0 (by decide) w0 (fun _ h9 => h9) rfl dX11_fails_5 ?_
    refine lv_if_ne (tgt := 16) hx hb dX11_fails_8 (by decide) (fun c_8 => ?_) (fun c_8 => ?_)
    · refine lv_aload_n hx hb dX11_fails_16 rfl (lv_at hl 0 rfl) ?_
      refine mq_get (ci := 16) (v := .int t) (C := RX11) (T := TX11) (N := 4) hx hb hts nX11 hown hK hM hp rfl 0 (by decide) w0 (fun _ h9 => h9) rfl dX11_fails_17 ?_
      refine lv_if_eq (tgt := 27) hx hb dX11_fails_20 (by decide) (fun c_20 => ?_) (fun c_20 => ?_)
      · refine lv_iconst (v := 0) hx hb dX11_fails_27 (by decide) ?_
        exact mq_zret (v := 0) hx hb hr (rfl) hlocks hM hS (⟨by rw [show fT z t e9 = t from if_neg (fun q => c_8 q.2)]; exact (mq_id hp).symm, by rw [show fT z t e9 = t from if_neg (fun q => c_8 q.2), decide_eq_false (fun h9 => h9 c_20)]; rfl⟩) dX11_fails_28
      · refine lv_iconst (v := 1) hx hb dX11_fails_23 (by decide) ?_
        refine lv_goto (tgt := 28) hx hb dX11_fails_24 (by decide) ?_
        exact mq_zret (v := 1) hx hb hr (rfl) hlocks hM hS (⟨by rw [show fT z t e9 = t from if_neg (fun q => c_8 q.2)]; exact (mq_id hp).symm, by rw [show fT z t e9 = t from if_neg (fun q => c_8 q.2), decide_eq_true c_20]; rfl⟩) dX11_fails_28
    · refine lv_aload_n hx hb dX11_fails_11 rfl (lv_at hl 0 rfl) ?_
      refine lv_iload_n hx hb dX11_fails_12 rfl (lv_at hl 2 rfl) ?_
      refine mq_put (ci := 16) (v := .int e9) (ty := .int) (C := RX11) (T := TX11) (N := 4) (fs' := [.int e9, .int dy, .ref sr, .ref lr]) hx hb hts nX11 tyX11 tyX11_ok nmX11 hown hK hM hS hp rfl 0 (by decide) w0 (fun _ h9 => h9) rfl (by decide +kernel) rfl rfl (Nat.le_of_ble_eq_true rfl) dX11_fails_13 rfl (fun f_1 H locs e_2 hM hS => ?_)
      have h_3 : f_1 x = some (.inr (16, [.int e9, .int dy, .ref sr, .ref lr])) := mq_s e_2
      refine lv_aload_n hx hb dX11_fails_16 rfl (lv_at hl 0 rfl) ?_
      refine mq_get (ci := 16) (v := .int e9) (C := RX11) (T := TX11) (N := 4) hx hb hts nX11 hown hK hM h_3 rfl 0 (by decide) w0 (fun _ h9 => h9) rfl dX11_fails_17 ?_
      refine lv_if_eq (tgt := 27) hx hb dX11_fails_20 (by decide) (fun c_20 => ?_) (fun c_20 => ?_)
      · refine lv_iconst (v := 0) hx hb dX11_fails_27 (by decide) ?_
        exact mq_zret (v := 0) hx hb hr (rfl) hlocks hM hS (⟨by rw [e_2, show fT z t e9 = e9 from if_pos ⟨c_1, c_8⟩], by rw [show fT z t e9 = e9 from if_pos ⟨c_1, c_8⟩, decide_eq_false (fun h9 => h9 c_20)]; rfl⟩) dX11_fails_28
      · refine lv_iconst (v := 1) hx hb dX11_fails_23 (by decide) ?_
        refine lv_goto (tgt := 28) hx hb dX11_fails_24 (by decide) ?_
        exact mq_zret (v := 1) hx hb hr (rfl) hlocks hM hS (⟨by rw [e_2, show fT z t e9 = e9 from if_pos ⟨c_1, c_8⟩], by rw [show fT z t e9 = e9 from if_pos ⟨c_1, c_8⟩, decide_eq_true c_20]; rfl⟩) dX11_fails_28

set_option maxHeartbeats 4000000 in
set_option maxRecDepth 100000 in
theorem c_X11_noSkill (l : Launch) (G : mq_G) (A : Nat → Prop) (f : mq_F) (x y : Nat) (v t dy : Int32) (o9 el n : Nat) (mo : Int32) : Met l yX11_noSkill wsX11_noSkill ({ frames := 1, cells := 0, slots := 0, locals := 22 } : Room) (mq_Pc G A f (f x = some (.inr (16, [.int t, .int dy, .ref y, .ref o9])) ∧ f y = some (cLs mo el n) ∧ n ≤ 2000) [.ref x, .int v]) (mq_Qi G A (fun r g => f = g ∧ r = zb (!vI v n))) 0 0 A := by
  refine Met.ofW (cc := cX11_noSkill) (maxL := 2) (ret := (some .boolean)) (by decide) rfl ?_
  intro p e s m args below meth c s₁ B hml hv
  obtain ⟨rfl, ⟨hK, hZ, hM, hA⟩, hp⟩ := hv
  have hx := B.exec
  have hb := B.bytes
  have hr := B.returns
  have hts := atoms_spec (ws := wsX11_noSkill) B.pre
  have hown : s.vm.findClass RX11 = some m.cls := findClass_of_methodNamed B.named
  have hlocks := B.notSynchronized
  have hS : va_S A s.heap s.heap [] := va_S.rf
  have hl := lv_entry ([.ref x, .int v]) (n := 2) (Nat.le_of_ble_eq_true rfl)
  rw [lg_entry_eq]
  generalize (lg_sl ([.ref x, .int v]) ++ List.replicate (2 - (lg_sl ([.ref x, .int v])).length) Slot.unset).toArray = ls at hl ⊢
  have hl : lv_has ls 2 [(0, .ref x), (1, .int v)] := hl
  have w0 := hts (.fieldLink RX11 10 "TutorlightModel" "skills" "Ljava/util/ArrayList;") (List.mem_of_getElem? (i := 1) rfl)
  have nX11 : ∀ w ∈ wsX110, w ∈ wsX11_noSkill := fun _ h => List.mem_cons_of_mem _ (List.mem_append_left _ (List.mem_append_right _ h))
  obtain ⟨hp1, hp2, h1⟩ := hp
  refine lv_iload_n hx hb dX11_noSkill_0 rfl (lv_at hl 1 rfl) ?_
  refine lv_iconst (v := 0) hx hb dX11_noSkill_1 (by decide) ?_
  refine lv_aload_n hx hb dX11_noSkill_2 rfl (lv_at hl 0 rfl) ?_
  refine mq_get (ci := 16) (v := .ref y) (C := RX11) (T := TX11) (N := 4) hx hb hts nX11 hown hK hM hp1 rfl 2 (by decide) w0 (fun _ h9 => h9) rfl dX11_noSkill_3 ?_
  refine mq_calli (va_runV (As := []) (rest := [.int 0, .int v]) ⟨hx, hb, hml, hown, hts⟩ (c_Jx4a65c_size_8abf5 l G A f y mo el n) (cwV 0 hts gX11_noSkill_Jx4a65c_size_8abf5 rfl rfl rfl (by decide +kernel) ⟨Nat.le_of_ble_eq_true rfl, Nat.le_of_ble_eq_true rfl⟩) (mq_preV hK hZ hS hA hM (q := (RJx4a65c, TJx4a65c, 3)) hp2 rfl (hp2) _) rfl rfl hl.1 rfl (lv_room (Nat.le_of_ble_eq_true rfl)) dX11_noSkill_6 ⟨Nat.le_of_ble_eq_true rfl, Nat.le_of_ble_eq_true rfl⟩) hS (fun r6 g6 H locs p6 hM hS => ?_)
  refine W.widen (k := 0) (n := 0) (Nat.le_of_ble_eq_true rfl) (Nat.le_of_ble_eq_true rfl) ?_
  obtain ⟨rfl, rfl⟩ := p6
  refine lv_iconst (v := 1) hx hb dX11_noSkill_9 (by decide) ?_
  refine lv_isub hx hb dX11_noSkill_10 ?_
  rw [show (nI n) - 1 = nI n - 1 from rfl]
  refine mq_calli (va_runS (As := [.int v, .int 0, .int (nI n - 1)]) (rest := []) ⟨hx, hb, hml, hown, hts⟩ (c_X11_in l G A f v 0 (nI n - 1)) (va_cwS 3 hts gX11_noSkill_X11_in rfl rfl rfl (by decide +kernel) ⟨Nat.le_of_ble_eq_true rfl, Nat.le_of_ble_eq_true rfl⟩) (mq_preS hK hZ hS hA hM (trivial) _) rfl rfl hl.1 rfl (lv_room (Nat.le_of_ble_eq_true rfl)) dX11_noSkill_11 ⟨Nat.le_of_ble_eq_true rfl, Nat.le_of_ble_eq_true rfl⟩) hS (fun r11 g11 H locs p11 hM hS => ?_)
  refine W.widen (k := 0) (n := 0) (Nat.le_of_ble_eq_true rfl) (Nat.le_of_ble_eq_true rfl) ?_
  obtain ⟨rfl, rfl⟩ := p11
  rw [inB_vI h1]
  refine lv_if_ne (tgt := 21) hx hb dX11_noSkill_14 (by decide) (fun c_14 => ?_) (fun c_14 => ?_)
  · replace c_14 : ¬ zb (vI v n) = 0 := c_14
    rw [zb_n0] at c_14
    refine lv_iconst (v := 0) hx hb dX11_noSkill_21 (by decide) ?_
    exact mq_zret (v := 0) hx hb hr (rfl) hlocks hM hS (⟨rfl, by rw [c_14]; rfl⟩) dX11_noSkill_22
  · replace c_14 : zb (vI v n) = 0 := c_14
    rw [zb_0] at c_14
    refine lv_iconst (v := 1) hx hb dX11_noSkill_17 (by decide) ?_
    refine lv_goto (tgt := 22) hx hb dX11_noSkill_18 (by decide) ?_
    exact mq_zret (v := 1) hx hb hr (rfl) hlocks hM hS (⟨rfl, by rw [c_14]; rfl⟩) dX11_noSkill_22

set_option maxHeartbeats 4000000 in
set_option maxRecDepth 100000 in
theorem c_X11_noLearner (l : Launch) (G : mq_G) (A : Nat → Prop) (f : mq_F) (x y : Nat) (v t dy : Int32) (o9 el n : Nat) (mo : Int32) : Met l yX11_noLearner wsX11_noLearner ({ frames := 1, cells := 0, slots := 0, locals := 22 } : Room) (mq_Pc G A f (f x = some (.inr (16, [.int t, .int dy, .ref o9, .ref y])) ∧ f y = some (cLs mo el n) ∧ n ≤ 2000) [.ref x, .int v]) (mq_Qi G A (fun r g => f = g ∧ r = zb (!vI v n))) 0 0 A := by
  refine Met.ofW (cc := cX11_noLearner) (maxL := 2) (ret := (some .boolean)) (by decide) rfl ?_
  intro p e s m args below meth c s₁ B hml hv
  obtain ⟨rfl, ⟨hK, hZ, hM, hA⟩, hp⟩ := hv
  have hx := B.exec
  have hb := B.bytes
  have hr := B.returns
  have hts := atoms_spec (ws := wsX11_noLearner) B.pre
  have hown : s.vm.findClass RX11 = some m.cls := findClass_of_methodNamed B.named
  have hlocks := B.notSynchronized
  have hS : va_S A s.heap s.heap [] := va_S.rf
  have hl := lv_entry ([.ref x, .int v]) (n := 2) (Nat.le_of_ble_eq_true rfl)
  rw [lg_entry_eq]
  generalize (lg_sl ([.ref x, .int v]) ++ List.replicate (2 - (lg_sl ([.ref x, .int v])).length) Slot.unset).toArray = ls at hl ⊢
  have hl : lv_has ls 2 [(0, .ref x), (1, .int v)] := hl
  have w0 := hts (.fieldLink RX11 16 "TutorlightModel" "learners" "Ljava/util/ArrayList;") (List.mem_of_getElem? (i := 1) rfl)
  have nX11 : ∀ w ∈ wsX110, w ∈ wsX11_noLearner := fun _ h => List.mem_cons_of_mem _ (List.mem_append_left _ (List.mem_append_right _ h))
  obtain ⟨hp1, hp2, h1⟩ := hp
  refine lv_iload_n hx hb dX11_noLearner_0 rfl (lv_at hl 1 rfl) ?_
  refine lv_iconst (v := 0) hx hb dX11_noLearner_1 (by decide) ?_
  refine lv_aload_n hx hb dX11_noLearner_2 rfl (lv_at hl 0 rfl) ?_
  refine mq_get (ci := 16) (v := .ref y) (C := RX11) (T := TX11) (N := 4) hx hb hts nX11 hown hK hM hp1 rfl 3 (by decide) w0 (fun _ h9 => h9) rfl dX11_noLearner_3 ?_
  refine mq_calli (va_runV (As := []) (rest := [.int 0, .int v]) ⟨hx, hb, hml, hown, hts⟩ (c_Jx4a65c_size_8abf5 l G A f y mo el n) (cwV 0 hts gX11_noLearner_Jx4a65c_size_8abf5 rfl rfl rfl (by decide +kernel) ⟨Nat.le_of_ble_eq_true rfl, Nat.le_of_ble_eq_true rfl⟩) (mq_preV hK hZ hS hA hM (q := (RJx4a65c, TJx4a65c, 3)) hp2 rfl (hp2) _) rfl rfl hl.1 rfl (lv_room (Nat.le_of_ble_eq_true rfl)) dX11_noLearner_6 ⟨Nat.le_of_ble_eq_true rfl, Nat.le_of_ble_eq_true rfl⟩) hS (fun r6 g6 H locs p6 hM hS => ?_)
  refine W.widen (k := 0) (n := 0) (Nat.le_of_ble_eq_true rfl) (Nat.le_of_ble_eq_true rfl) ?_
  obtain ⟨rfl, rfl⟩ := p6
  refine lv_iconst (v := 1) hx hb dX11_noLearner_9 (by decide) ?_
  refine lv_isub hx hb dX11_noLearner_10 ?_
  rw [show (nI n) - 1 = nI n - 1 from rfl]
  refine mq_calli (va_runS (As := [.int v, .int 0, .int (nI n - 1)]) (rest := []) ⟨hx, hb, hml, hown, hts⟩ (c_X11_in l G A f v 0 (nI n - 1)) (va_cwS 3 hts gX11_noLearner_X11_in rfl rfl rfl (by decide +kernel) ⟨Nat.le_of_ble_eq_true rfl, Nat.le_of_ble_eq_true rfl⟩) (mq_preS hK hZ hS hA hM (trivial) _) rfl rfl hl.1 rfl (lv_room (Nat.le_of_ble_eq_true rfl)) dX11_noLearner_11 ⟨Nat.le_of_ble_eq_true rfl, Nat.le_of_ble_eq_true rfl⟩) hS (fun r11 g11 H locs p11 hM hS => ?_)
  refine W.widen (k := 0) (n := 0) (Nat.le_of_ble_eq_true rfl) (Nat.le_of_ble_eq_true rfl) ?_
  obtain ⟨rfl, rfl⟩ := p11
  rw [inB_vI h1]
  refine lv_if_ne (tgt := 21) hx hb dX11_noLearner_14 (by decide) (fun c_14 => ?_) (fun c_14 => ?_)
  · replace c_14 : ¬ zb (vI v n) = 0 := c_14
    rw [zb_n0] at c_14
    refine lv_iconst (v := 0) hx hb dX11_noLearner_21 (by decide) ?_
    exact mq_zret (v := 0) hx hb hr (rfl) hlocks hM hS (⟨rfl, by rw [c_14]; rfl⟩) dX11_noLearner_22
  · replace c_14 : zb (vI v n) = 0 := c_14
    rw [zb_0] at c_14
    refine lv_iconst (v := 1) hx hb dX11_noLearner_17 (by decide) ?_
    refine lv_goto (tgt := 22) hx hb dX11_noLearner_18 (by decide) ?_
    exact mq_zret (v := 1) hx hb hr (rfl) hlocks hM hS (⟨rfl, by rw [c_14]; rfl⟩) dX11_noLearner_22

/-- what 'no' leaves: a learner and a skill that are there, or the first number recorded -/
def noP (G : mq_G) (f g : mq_F) (ad : AD) (S : AT) (X : CX) (S2 : AT) (Y : MX) (O : OX) (ua ub r : Int32) : Prop := (f = g ∧ r = 0 ∧ ∃ j k, j < aL S2 ∧ k < aN S2 ∧ ua = nI j ∧ ub = nI k) ∨ (r = 1 ∧ ¬ (vp_in ua (aL S2) ∧ vp_in ub (aN S2)) ∧ WR G g ad S X S2 (yThr Y 1) O)
theorem no_0 {G : mq_G} {f g : mq_F} {ad : AD} {S : AT} {X : CX} {S2 : AT} {Y : MX} {O : OX} {ua ub r : Int32} (h : noP G f g ad S X S2 Y O ua ub r) (hr : r = 0) : f = g ∧ ∃ j k, j < aL S2 ∧ k < aN S2 ∧ ua = nI j ∧ ub = nI k := h.elim (fun q => ⟨q.1, q.2.2⟩) fun q => absurd (q.1.symm.trans hr) (by decide)
theorem no_1 {G : mq_G} {f g : mq_F} {ad : AD} {S : AT} {X : CX} {S2 : AT} {Y : MX} {O : OX} {ua ub r : Int32} (h : noP G f g ad S X S2 Y O ua ub r) (hr : ¬ r = 0) : ¬ (vp_in ua (aL S2) ∧ vp_in ub (aN S2)) ∧ WR G g ad S X S2 (yThr Y 1) O := h.elim (fun q => absurd q.2.1 hr) fun q => q.2
theorem WR_yt {G : mq_G} {f g : mq_F} {ad : AD} {S : AT} {X : CX} {S2 : AT} {Y : MX} {O : OX} {t : Int32} (h : WR G f ad S X S2 Y O) (hg : g = mq_up f (ad 20 0 0) (.inr (16, [.int t, .int (nI (aD S2)), .ref (ad 21 0 0), .ref (ad 23 0 0)]))) : WR G g ad S X S2 (yThr Y t) O := by
  have h1 := RR.put h t20 rfl hg
  rw [cT_yt] at h1
  exact h1
theorem vI_ex1 {v : Int32} {n : Nat} (h : vI v n = true) : ∃ j, j < n ∧ v = nI j := by
  have h1 := vp_in_iff.mp (vI_iff.mp h)
  refine ⟨v.toInt.toNat, by omega, ?_⟩
  have h2 : v.toInt < 2 ^ 31 := Int32.toInt_lt v
  rw [← Int32.toInt_inj, nI_toInt (by omega)]
  omega

set_option maxHeartbeats 4000000 in
set_option maxRecDepth 100000 in
theorem c_X11_no (l : Launch) (G : mq_G) (A : Nat → Prop) (f : mq_F) (ad : AD) (S : AT) (X : CX) (S2 : AT) (Y : MX) (O : OX) (T : Nat) (ua ub : Int32) : Met l yX11_no wsX11_no ({ frames := 2, cells := 0, slots := 0, locals := 43 } : Room) (mq_Pc G A f (WR G f ad S X S2 Y O ∧ mOK S2 Y T ∧ yT Y = 0) [.ref (ad 20 0 0), .int ua, .int ub]) (mq_Qi G A (fun r g => noP G f g ad S X S2 Y O ua ub r)) 0 0 A := by
  refine Met.ofW (cc := cX11_no) (maxL := 3) (ret := (some .boolean)) (by decide) rfl ?_
  intro p e s m args below meth c s₁ B hml hv
  obtain ⟨rfl, ⟨hK, hZ, hM, hA⟩, hp⟩ := hv
  have hx := B.exec
  have hb := B.bytes
  have hr := B.returns
  have hts := atoms_spec (ws := wsX11_no) B.pre
  have hown : s.vm.findClass RX11 = some m.cls := findClass_of_methodNamed B.named
  have hlocks := B.notSynchronized
  have hS : va_S A s.heap s.heap [] := va_S.rf
  have hl := lv_entry ([.ref (ad 20 0 0), .int ua, .int ub]) (n := 3) (Nat.le_of_ble_eq_true rfl)
  rw [lg_entry_eq]
  generalize (lg_sl ([.ref (ad 20 0 0), .int ua, .int ub]) ++ List.replicate (3 - (lg_sl ([.ref (ad 20 0 0), .int ua, .int ub])).length) Slot.unset).toArray = ls at hl ⊢
  have hl : lv_has ls 3 [(0, .ref (ad 20 0 0)), (1, .int ua), (2, .int ub)] := hl
  obtain ⟨hR, hO, hy⟩ := hp
  obtain ⟨⟨X9, ⟨hn, hl4, hd2, hT⟩, -⟩, ⟨hns, hnc⟩, ⟨hls, hlc⟩, hac, hmc⟩ := id hO
  have y20_134 := hR.1 _ _ _ _ (t20)
  have y21_135 := hR.1 _ _ _ _ (t21)
  have y23_136 := hR.1 _ _ _ _ (t23)
  have y20 := y20_134
  refine lv_aload_n hx hb dX11_no_0 rfl (lv_at hl 0 rfl) ?_
  refine lv_aload_n hx hb dX11_no_1 rfl (lv_at hl 0 rfl) ?_
  refine lv_iload_n hx hb dX11_no_2 rfl (lv_at hl 1 rfl) ?_
  refine mq_calli (va_runV (As := [.int ua]) (rest := [.ref (ad 20 0 0)]) ⟨hx, hb, hml, hown, hts⟩ (c_X11_noLearner l G A f (ad 20 0 0) (ad 23 0 0) ua (yT Y) (nI (aD S2)) (ad 21 0 0) (lsD G (yL Y).2 (ad 24 0 0)) (aL S2) (yL Y).1) (cwV 1 hts gX11_no_X11_noLearner rfl rfl rfl (by decide +kernel) ⟨Nat.le_of_ble_eq_true rfl, Nat.le_of_ble_eq_true rfl⟩) (mq_preV hK hZ hS hA hM (q := (RX11, TX11, 4)) y20_134 rfl (⟨y20_134, y23_136, by omega⟩) _) rfl rfl hl.1 rfl (lv_room (Nat.le_of_ble_eq_true rfl)) dX11_no_3 ⟨Nat.le_of_ble_eq_true rfl, Nat.le_of_ble_eq_true rfl⟩) hS (fun r3 g3 H locs p3 hM hS => ?_)
  refine W.widen (k := 0) (n := 0) (Nat.le_of_ble_eq_true rfl) (Nat.le_of_ble_eq_true rfl) ?_
  obtain ⟨rfl, rfl⟩ := p3
  refine lv_if_ne (tgt := 17) hx hb dX11_no_6 (by decide) (fun c_6 => ?_) (fun c_6 => ?_)
  · replace c_6 : ¬ zb (!vI ua (aL S2)) = 0 := c_6
    rw [zb_n0] at c_6
    have z_6 : vI ua (aL S2) = false := by simpa using c_6
    refine lv_iconst (v := 1) hx hb dX11_no_17 (by decide) ?_
    refine lv_goto (tgt := 22) hx hb dX11_no_18 (by decide) ?_
    refine lv_iconst (v := 1) hx hb dX11_no_22 (by decide) ?_
    refine mq_calli (va_runV (As := [.int 1, .int 1]) (rest := []) ⟨hx, hb, hml, hown, hts⟩ (c_X11_fails l G A f (ad 20 0 0) true 1 (yT Y) (nI (aD S2)) (ad 21 0 0) (ad 23 0 0)) (cwV 2 hts gX11_no_X11_fails rfl rfl rfl (by decide +kernel) ⟨Nat.le_of_ble_eq_true rfl, Nat.le_of_ble_eq_true rfl⟩) (mq_preV hK hZ hS hA hM (q := (RX11, TX11, 4)) y20_134 rfl (y20_134) _) rfl rfl hl.1 rfl (lv_room (Nat.le_of_ble_eq_true rfl)) dX11_no_23 ⟨Nat.le_of_ble_eq_true rfl, Nat.le_of_ble_eq_true rfl⟩) hS (fun r23 g23 H locs p23 hM hS => ?_)
    refine W.widen (k := 0) (n := 0) (Nat.le_of_ble_eq_true rfl) (Nat.le_of_ble_eq_true rfl) ?_
    obtain ⟨hg, hr9⟩ := p23
    exact mq_zret (v := r23) hx hb hr (by rw [hr9]; exact zb_nar _) hlocks hM hS (Or.inr ⟨by rw [hr9, show fT true (yT Y) 1 = 1 from if_pos ⟨rfl, hy⟩]; rfl, fun q => absurd (vI_iff.mpr q.1) (by rw [z_6]; decide), WR_yt hR (by rw [hg, show fT true (yT Y) 1 = 1 from if_pos ⟨rfl, hy⟩])⟩) dX11_no_26
  · replace c_6 : zb (!vI ua (aL S2)) = 0 := c_6
    rw [zb_0] at c_6
    have z_6 : vI ua (aL S2) = true := by simpa using c_6
    refine lv_aload_n hx hb dX11_no_9 rfl (lv_at hl 0 rfl) ?_
    refine lv_iload_n hx hb dX11_no_10 rfl (lv_at hl 2 rfl) ?_
    refine mq_calli (va_runV (As := [.int ub]) (rest := [.ref (ad 20 0 0)]) ⟨hx, hb, hml, hown, hts⟩ (c_X11_noSkill l G A f (ad 20 0 0) (ad 21 0 0) ub (yT Y) (nI (aD S2)) (ad 23 0 0) (lsD G (yS Y).2 (ad 22 0 0)) (aN S2) (yS Y).1) (cwV 1 hts gX11_no_X11_noSkill rfl rfl rfl (by decide +kernel) ⟨Nat.le_of_ble_eq_true rfl, Nat.le_of_ble_eq_true rfl⟩) (mq_preV hK hZ hS hA hM (q := (RX11, TX11, 4)) y20_134 rfl (⟨y20_134, y21_135, by omega⟩) _) rfl rfl hl.1 rfl (lv_room (Nat.le_of_ble_eq_true rfl)) dX11_no_11 ⟨Nat.le_of_ble_eq_true rfl, Nat.le_of_ble_eq_true rfl⟩) hS (fun r11 g11 H locs p11 hM hS => ?_)
    refine W.widen (k := 0) (n := 0) (Nat.le_of_ble_eq_true rfl) (Nat.le_of_ble_eq_true rfl) ?_
    obtain ⟨rfl, rfl⟩ := p11
    refine lv_if_eq (tgt := 21) hx hb dX11_no_14 (by decide) (fun c_14 => ?_) (fun c_14 => ?_)
    · replace c_14 : zb (!vI ub (aN S2)) = 0 := c_14
      rw [zb_0] at c_14
      have z_14 : vI ub (aN S2) = true := by simpa using c_14
      refine lv_iconst (v := 0) hx hb dX11_no_21 (by decide) ?_
      refine lv_iconst (v := 1) hx hb dX11_no_22 (by decide) ?_
      refine mq_calli (va_runV (As := [.int 0, .int 1]) (rest := []) ⟨hx, hb, hml, hown, hts⟩ (c_X11_fails l G A f (ad 20 0 0) false 1 (yT Y) (nI (aD S2)) (ad 21 0 0) (ad 23 0 0)) (cwV 2 hts gX11_no_X11_fails rfl rfl rfl (by decide +kernel) ⟨Nat.le_of_ble_eq_true rfl, Nat.le_of_ble_eq_true rfl⟩) (mq_preV hK hZ hS hA hM (q := (RX11, TX11, 4)) y20_134 rfl (y20_134) _) rfl rfl hl.1 rfl (lv_room (Nat.le_of_ble_eq_true rfl)) dX11_no_23 ⟨Nat.le_of_ble_eq_true rfl, Nat.le_of_ble_eq_true rfl⟩) hS (fun r23 g23 H locs p23 hM hS => ?_)
      refine W.widen (k := 0) (n := 0) (Nat.le_of_ble_eq_true rfl) (Nat.le_of_ble_eq_true rfl) ?_
      obtain ⟨hg, hr9⟩ := p23
      exact mq_zret (v := r23) hx hb hr (by rw [hr9]; exact zb_nar _) hlocks hM hS (Or.inl ⟨by rw [hg]; exact (mq_id y20).symm, by rw [hr9, show fT false (yT Y) 1 = 0 from hy]; rfl, (vI_ex1 z_6).elim fun j hj => (vI_ex1 z_14).elim fun k hk => ⟨j, k, hj.1, hk.1, hj.2, hk.2⟩⟩) dX11_no_26
    · replace c_14 : ¬ zb (!vI ub (aN S2)) = 0 := c_14
      rw [zb_n0] at c_14
      have z_14 : vI ub (aN S2) = false := by simpa using c_14
      refine lv_iconst (v := 1) hx hb dX11_no_17 (by decide) ?_
      refine lv_goto (tgt := 22) hx hb dX11_no_18 (by decide) ?_
      refine lv_iconst (v := 1) hx hb dX11_no_22 (by decide) ?_
      refine mq_calli (va_runV (As := [.int 1, .int 1]) (rest := []) ⟨hx, hb, hml, hown, hts⟩ (c_X11_fails l G A f (ad 20 0 0) true 1 (yT Y) (nI (aD S2)) (ad 21 0 0) (ad 23 0 0)) (cwV 2 hts gX11_no_X11_fails rfl rfl rfl (by decide +kernel) ⟨Nat.le_of_ble_eq_true rfl, Nat.le_of_ble_eq_true rfl⟩) (mq_preV hK hZ hS hA hM (q := (RX11, TX11, 4)) y20_134 rfl (y20_134) _) rfl rfl hl.1 rfl (lv_room (Nat.le_of_ble_eq_true rfl)) dX11_no_23 ⟨Nat.le_of_ble_eq_true rfl, Nat.le_of_ble_eq_true rfl⟩) hS (fun r23 g23 H locs p23 hM hS => ?_)
      refine W.widen (k := 0) (n := 0) (Nat.le_of_ble_eq_true rfl) (Nat.le_of_ble_eq_true rfl) ?_
      obtain ⟨hg, hr9⟩ := p23
      exact mq_zret (v := r23) hx hb hr (by rw [hr9]; exact zb_nar _) hlocks hM hS (Or.inr ⟨by rw [hr9, show fT true (yT Y) 1 = 1 from if_pos ⟨rfl, hy⟩]; rfl, fun q => absurd (vI_iff.mpr q.2) (by rw [z_14]; decide), WR_yt hR (by rw [hg, show fT true (yT Y) 1 = 1 from if_pos ⟨rfl, hy⟩])⟩) dX11_no_26

set_option maxHeartbeats 4000000 in
set_option maxRecDepth 100000 in
theorem c_X11_of (l : Launch) (G : mq_G) (A : Nat → Prop) (f : mq_F) (ad : AD) (S : AT) (X : CX) (S2 : AT) (Y : MX) (O : OX) (T : Nat) (j k : Nat) : Met l yX11_of wsX11_of ({ frames := 10, cells := 0, slots := 0, locals := 184 } : Room) (mq_Pc G A f (WR G f ad S X S2 Y O ∧ mOK S2 Y T ∧ j < aL S2 ∧ k < 10) [.ref (ad 20 0 0), .int (nI j), .int (nI k)]) (mq_Qq G A (fun r g => f = g ∧ r = some (ad 29 j k))) 0 0 A := by
  refine Met.ofW (cc := cX11_of) (maxL := 3) (ret := (some (.object "TutorlightModel$Known"))) (by decide) rfl ?_
  intro p e s m args below meth c s₁ B hml hv
  obtain ⟨rfl, ⟨hK, hZ, hM, hA⟩, hp⟩ := hv
  have hx := B.exec
  have hb := B.bytes
  have hr := B.returns
  have hts := atoms_spec (ws := wsX11_of) B.pre
  have hown : s.vm.findClass RX11 = some m.cls := findClass_of_methodNamed B.named
  have hlocks := B.notSynchronized
  have hS : va_S A s.heap s.heap [] := va_S.rf
  have hl := lv_entry ([.ref (ad 20 0 0), .int (nI j), .int (nI k)]) (n := 3) (Nat.le_of_ble_eq_true rfl)
  rw [lg_entry_eq]
  generalize (lg_sl ([.ref (ad 20 0 0), .int (nI j), .int (nI k)]) ++ List.replicate (3 - (lg_sl ([.ref (ad 20 0 0), .int (nI j), .int (nI k)])).length) Slot.unset).toArray = ls at hl ⊢
  have hl : lv_has ls 3 [(0, .ref (ad 20 0 0)), (1, .int (nI j)), (2, .int (nI k))] := hl
  have w0 := hts (.fieldLink RX11 16 "TutorlightModel" "learners" "Ljava/util/ArrayList;") (List.mem_of_getElem? (i := 1) rfl)
  have w1 := hts (.classLink RX11 46 "TutorlightModel$Learner") (List.mem_of_getElem? (i := 2) rfl)
  have w2 := hts (.fieldLink RX11 48 "TutorlightModel$Learner" "known" "[LTutorlightModel$Known;") (List.mem_of_getElem? (i := 3) rfl)
  have nX11 : ∀ w ∈ wsX110, w ∈ wsX11_of := fun _ h => List.mem_cons_of_mem _ (List.mem_append_left _ (List.mem_append_left _ (List.mem_append_right _ h)))
  have nX9 : ∀ w ∈ wsX90, w ∈ wsX11_of := fun _ h => List.mem_cons_of_mem _ (List.mem_append_left _ (List.mem_append_right _ h))
  obtain ⟨hR, hO, hj, hk⟩ := hp
  obtain ⟨⟨X9, ⟨hn, hl4, hd2, hT⟩, -⟩, ⟨hns, hnc⟩, ⟨hls, hlc⟩, hac, hmc⟩ := id hO
  have hcl : (yL Y).2 ≠ 0 := by omega
  have y20_137 := hR.1 _ _ _ _ (t20)
  have y123_138 := hR.1 _ _ _ _ (t123 hcl)
  have y24_139 := hR.1 _ _ _ _ (t24 hcl)
  have y27_140 := hR.1 _ _ _ _ (t27 (j := j) hj)
  have y28_141 := hR.1 _ _ _ _ (t28 (j := j) hj)
  refine lv_aload_n hx hb dX11_of_0 rfl (lv_at hl 0 rfl) ?_
  refine mq_get (ci := 16) (v := .ref (ad 23 0 0)) (C := RX11) (T := TX11) (N := 4) hx hb hts nX11 hown hK hM y20_137 rfl 3 (by decide) w0 (fun _ h9 => h9) rfl dX11_of_1 ?_
  refine lv_iload_n hx hb dX11_of_4 rfl (lv_at hl 1 rfl) ?_
  refine mq_callq (va_runV (As := [.int (nI j)]) (rest := []) ⟨hx, hb, hml, hown, hts⟩ (c_Jx4a65c_get_915e3 l G A f (ad 23 0 0) (yL Y).1 (ad 24 0 0) (yL Y).2 (aL S2) j (fun i => ad 27 i 0)) (cwV 1 hts gX11_of_Jx4a65c_get_915e3 rfl rfl rfl (by decide +kernel) ⟨Nat.le_of_ble_eq_true rfl, Nat.le_of_ble_eq_true rfl⟩) (mq_preV hK hZ hS hA hM (q := (RJx4a65c, TJx4a65c, 3)) y123_138 rfl (⟨y123_138, y24_139, hj, hls, by omega⟩) _) rfl rfl hl.1 rfl (lv_room (Nat.le_of_ble_eq_true rfl)) dX11_of_5 ⟨Nat.le_of_ble_eq_true rfl, Nat.le_of_ble_eq_true rfl⟩) hS (fun r5 g5 H locs p5 hM hS => ?_)
  refine W.widen (k := 0) (n := 0) (Nat.le_of_ble_eq_true rfl) (Nat.le_of_ble_eq_true rfl) ?_
  obtain ⟨rfl, rfl⟩ := p5
  refine mq_castG hx hb hown w1 (mq_recv hK hM y27_140 rfl) dX11_of_8 ?_
  refine mq_get (ci := 14) (v := .ref (ad 28 j 0)) (C := RX9) (T := TX9) (N := 8) hx hb hts nX9 hown hK hM y27_140 rfl 0 (by decide) w2 (fun _ h9 => h9) rfl dX11_of_11 ?_
  refine lv_iload_n hx hb dX11_of_14 rfl (lv_at hl 2 rfl) ?_
  refine mq_aald (t0 := 7) (v := .ref (ad 29 j k)) hx hb hK hM rfl y28_141 (vp_in_nI (by omega) (by omega)) (by rw [show (nI k : Int32).toNatClampNeg = k from nI_clamp (by omega)]; exact congrArg va_rf (rf_at (by omega))) dX11_of_15 ?_
  exact mq_aret (r := some (ad 29 j k)) rfl hx hb hr (Or.inl ⟨_, rfl⟩) hlocks hM hS (⟨rfl, rfl⟩) dX11_of_16
