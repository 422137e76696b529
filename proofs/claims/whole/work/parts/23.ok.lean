/-! WHAT STAYS TRUE OF THE CLASS'S STATE -/
def odn (g : Nat → maT) (k d n : Nat) : Nat := cntB (fun o => decide (o ≠ k) && decide (mDu (g o) = d)) n
theorem cntB_congr {p q : Nat → Bool} : ∀ {n : Nat}, (∀ i, i < n → p i = q i) → cntB p n = cntB q n
  | 0, _ => rfl
  | n + 1, h => by rw [cntB_S, cntB_S, cntB_congr (fun i hi => h i (by omega)), h n (Nat.lt_succ_self n)]
theorem allB_congr {p q : Nat → Bool} : ∀ {n : Nat}, (∀ i, i < n → p i = q i) → allB p n = allB q n
  | 0, _ => rfl
  | n + 1, h => by
    show (allB p n && p n) = (allB q n && q n)
    rw [allB_congr (fun i hi => h i (by omega)), h n (Nat.lt_succ_self n)]
theorem cnt_due (g : Nat → maT) {k d n : Nat} (hk : k < n) : cntB (fun o => decide (mDu (g o) = d)) n = odn g k d n + (if mDu (g k) = d then 1 else 0) := by
  have h := cnt_split (fun o => decide (mDu (g o) = d)) k n
  rw [← h]
  unfold odn
  congr 1
  by_cases hd : mDu (g k) = d
  · rw [if_pos ⟨hk, by simp [hd]⟩, if_pos hd]
  · rw [if_neg (by simp [hd]), if_neg hd]
theorem odu_odn {S : AT} {j k d : Nat} : odu S j k d = odn (aM S j) k d (aN S) := by
  unfold odu odF odn
  refine cntB_congr fun o _ => ?_
  by_cases a : o = k <;> by_cases b : mDu (aM S j o) = d <;> simp [a, b]
theorem odn_fU {g g' : Nat → maT} {k d n : Nat} (h : ∀ o, o ≠ k → g' o = g o) : odn g' k d n = odn g k d n := by
  unfold odn
  refine cntB_congr fun o _ => ?_
  by_cases a : o = k
  · simp [a]
  · rw [h o a]
theorem sMa_at {S : AT} {j k : Nat} {v : maT} : aM (sMa S j k v) j k = v := fU2_s
theorem sMa_ne {S : AT} {j k j' k' : Nat} {v : maT} (h : ¬ (j' = j ∧ k' = k)) : aM (sMa S j k v) j' k' = aM S j' k' := fU2_n h
theorem odu_sMa {S : AT} {j k d : Nat} {v : maT} : odu (sMa S j k v) j k d = odu S j k d := by
  rw [odu_odn, odu_odn]
  exact odn_fU fun o ho => sMa_ne (fun q => ho q.2)
theorem ffP_sMa {S : AT} {j k : Nat} {v : maT} : ffP (sMa S j k v) j k = ffP S j k := by
  funext w; unfold ffP; rw [odu_sMa]
theorem maOK_mono {sk : skT} {n k T : Nat} {v : maT} {w : Nat → Int64} (h : maOK sk n k T v w) : maOK sk n k (T + 1) v w := ⟨h.1, h.2.1, by have := h.2.2.1; omega, by have := h.2.2.2.1; omega, h.2.2.2.2⟩
theorem exOK_mono {n T : Nat} {e : exT} (h : exOK n T e) : exOK n (T + 1) e := ⟨h.1, h.2.1, h.2.2.1, by have := h.2.2.2.1; omega, by have := h.2.2.2.2; omega⟩
theorem ok_mono {S : AT} {X : CX} {T : Nat} (h : cOK S X T) (hT : T < 512) : cOK S X (T + 1) :=
  ⟨⟨h.1.1, h.1.2.1, h.1.2.2.1, hT⟩, h.2.1, fun j k hj hk => maOK_mono (h.2.2.1 j k hj hk), h.2.2.2.1, fun j hj => ⟨fun e he => exOK_mono ((h.2.2.2.2.1 j hj).1 e he), (h.2.2.2.2.1 j hj).2.1, by have := (h.2.2.2.2.1 j hj).2.2; omega⟩, h.2.2.2.2.2⟩
theorem ok_ma {S : AT} {X X' : CX} {T j k : Nat} {v : maT} (h : cOK S X T) (hT : T < 512) (hj : j < aL S) (hk : k < aN S)
    (hX : (∀ j' k', ¬ (j' = j ∧ k' = k) → xW X' j' k' = xW X j' k') ∧ xLn X' = xLn X ∧ xOl X' = xOl X ∧ xB X' = xB X)
    (hv : maOK (aS S k) (aN S) k (T + 1) v (xW X' j k)) (hd : mDu v = mDu (aM S j k) ∨ odu S j k (mDu v) < 2) : cOK (sMa S j k v) X' (T + 1) := by
  have h9 := ok_mono h hT
  refine ⟨h9.1, h9.2.1, fun j' k' hj' hk' => ?_, fun j' hj' d hd0 => ?_, fun j' hj' => ?_, by rw [hX.2.2.2]; exact h9.2.2.2.2.2⟩
  · by_cases e : j' = j ∧ k' = k
    · obtain ⟨rfl, rfl⟩ := e
      rw [sMa_at]; exact hv
    · rw [sMa_ne e, hX.1 _ _ e]; exact h9.2.2.1 j' k' hj' hk'
  · by_cases e : j' = j
    · subst e
      have h1 := cnt_due (aM (sMa S j' k v) j') (d := d) hk
      have h2 := cnt_due (aM S j') (d := d) hk
      have h3 := h.2.2.2.1 j' hj' d hd0
      have h4 : odn (aM (sMa S j' k v) j') k d (aN S) = odn (aM S j') k d (aN S) := odn_fU fun o ho => sMa_ne (fun q => ho q.2)
      rw [sMa_at] at h1
      show cntB _ (aN S) ≤ 2
      rw [h1, h4]
      rcases hd with hd | hd
      · rw [hd]; omega
      · rw [odu_odn] at hd
        by_cases hm : mDu v = d
        · rw [if_pos hm, ← hm]; omega
        · rw [if_neg hm]; split at h2 <;> omega
    · have : (fun o => decide (mDu (aM (sMa S j k v) j' o) = d)) = (fun o => decide (mDu (aM S j' o) = d)) := by
        funext o; rw [sMa_ne (fun q => e q.1)]
      rw [this]; exact h.2.2.2.1 j' hj' d hd0
  · rw [hX.2.1, hX.2.2.1]; exact h9.2.2.2.2.1 j' hj'
abbrev nsOpen (S : AT) (j k : Nat) : AT := sMa S j k (mOd (aM S j k), mTo (aM S j k), mAn (aM S j k), true, mRo (aM S j k), mDu (aM S j k))
abbrev nsSet (S : AT) (j k o : Nat) : AT := sMa S j k (o, o, [], mOp (aM S j k), mRo (aM S j k), mDu (aM S j k))
abbrev nRow (z : Bool) (r : Nat) : Nat := if z then r + 1 else 0
def nDay (S : AT) (j k : Nat) (z : Bool) : Nat := ffd (ffP S j k) (aN S) (aD S + dw (nRow z (mRo (aM S j k))))
abbrev nMa (S : AT) (j k : Nat) (z : Bool) : maT := (mv (aS S k).1 (aS S k).2.1 (aS S k).2.2.1 (mOd (aM S j k)) z, mTo (aM S j k), mAn (aM S j k) ++ [z], mOp (aM S j k), nRow z (mRo (aM S j k)), nDay S j k z + 1)
abbrev nsNote (S : AT) (j k : Nat) (z : Bool) : AT := sMa S j k (nMa S j k z)
theorem ok_open {S : AT} {X : CX} {T j k : Nat} (h : cOK S X T) (hT : T < 512) (hj : j < aL S) (hk : k < aN S) : cOK (nsOpen S j k) X (T + 1) := by
  have hm := maOK_mono (h.2.2.1 j k hj (by have := h.1.1; omega))
  exact ok_ma h hT hj hk ⟨fun _ _ _ => rfl, rfl, rfl, rfl⟩ hm (Or.inl rfl)
theorem ok_set {S : AT} {X : CX} {T j k o : Nat} (h : cOK S X T) (hT : T < 512) (hj : j < aL S) (hk : k < aN S) (ho : o ≤ 1000) : cOK (nsSet S j k o) X (T + 1) := by
  obtain ⟨m1, m2, m3, m4, m5, m6, m7, m8⟩ := maOK_mono (h.2.2.1 j k hj (by have := h.1.1; omega))
  exact ok_ma h hT hj hk ⟨fun _ _ _ => rfl, rfl, rfl, rfl⟩ ⟨ho, ho, Nat.zero_le _, m4, m5, tie_0, fun _ => rfl, fun q => absurd hk (by omega)⟩ (Or.inl rfl)
/-- the search for a free day ends: the full days take other skills, two each -/
theorem ffd_stop {S : AT} {j k w : Nat} (hk : k < aN S) : ffP S j k (ffd (ffP S j k) (aN S) w) = false := by
  have sum : ∀ (n : Nat) (g : Nat → maT) (w N : Nat), (∀ t, t < n → 2 ≤ odn g k (w + t + 1) N) → 2 * n ≤ cntB (fun o => decide (o ≠ k) && decide (w + 1 ≤ mDu (g o) ∧ mDu (g o) < w + n + 1)) N := by
    intro n
    induction n with
    | zero => intro g w N h; omega
    | succ n ih =>
      intro g w N h
      have h1 := ih g w N (fun t ht => h t (by omega))
      have h2 := h n (Nat.lt_succ_self n)
      have h3 : ∀ M, cntB (fun o => decide (o ≠ k) && decide (w + 1 ≤ mDu (g o) ∧ mDu (g o) < w + n + 1)) M + odn g k (w + n + 1) M = cntB (fun o => decide (o ≠ k) && decide (w + 1 ≤ mDu (g o) ∧ mDu (g o) < w + (n + 1) + 1)) M := by
        intro M
        unfold odn
        induction M with
        | zero => rfl
        | succ M ihM =>
          rw [cntB_S, cntB_S, cntB_S, ← ihM]
          by_cases a : M = k
          · simp [a]
          · by_cases b : mDu (g M) = w + n + 1
            · have c1 : ¬ (w + 1 ≤ mDu (g M) ∧ mDu (g M) < w + n + 1) := by omega
              have c2 : w + 1 ≤ mDu (g M) ∧ mDu (g M) < w + (n + 1) + 1 := by omega
              simp only [a, b, c1, c2, ne_eq, not_false_eq_true, decide_true, decide_false, Bool.and_false, Bool.and_true, if_true]
              simp; omega
            · by_cases c1 : w + 1 ≤ mDu (g M) ∧ mDu (g M) < w + n + 1
              · have c2 : w + 1 ≤ mDu (g M) ∧ mDu (g M) < w + (n + 1) + 1 := by omega
                simp only [a, b, c1, c2, ne_eq, not_false_eq_true, decide_true, decide_false, Bool.and_false, Bool.and_true, if_true]
                simp; omega
              · have c2 : ¬ (w + 1 ≤ mDu (g M) ∧ mDu (g M) < w + (n + 1) + 1) := by omega
                simp only [a, b, c1, c2, ne_eq, not_false_eq_true, decide_true, decide_false, Bool.and_false, Bool.and_true]
                simp
      have h4 := h3 N
      omega
  have key : ∀ (n w : Nat), (∀ t, t < n → ffP S j k (w + t) = true) ∨ ffP S j k (ffd (ffP S j k) n w) = false := by
    intro n
    induction n with
    | zero => intro w; exact Or.inl fun t ht => absurd ht (Nat.not_lt_zero t)
    | succ n ih =>
      intro w
      cases hp : ffP S j k w with
      | false => exact Or.inr (by rw [ffd_f hp]; exact hp)
      | true =>
        rw [ffd_t hp]
        rcases ih (w + 1) with q | q
        · refine Or.inl fun t ht => ?_
          cases t with
          | zero => exact hp
          | succ t => rw [show w + (t + 1) = w + 1 + t by omega]; exact q t (by omega)
        · exact Or.inr q
  rcases key (aN S) w with q | q
  · exfalso
    have h1 := sum (aN S) (aM S j) w (aN S) (fun t ht => by
      have := q t ht
      unfold ffP at this
      rw [decide_eq_true_eq, odu_odn] at this
      exact this)
    have h2 := cntB_le (fun o => decide (o ≠ k) && decide (w + 1 ≤ mDu (aM S j o) ∧ mDu (aM S j o) < w + aN S + 1)) (aN S)
    omega
  · exact q
theorem nDay_free {S : AT} {j k : Nat} {z : Bool} (hk : k < aN S) : odu S j k (nDay S j k z + 1) < 2 := by
  have h := ffd_stop (S := S) (j := j) (w := aD S + dw (nRow z (mRo (aM S j k)))) hk
  unfold ffP at h
  rw [decide_eq_false_iff_not] at h
  unfold nDay ffP
  omega
theorem nDay_le {S : AT} {j k : Nat} {z : Bool} (hd : aD S ≤ 200) (hn : aN S ≤ 10) : nDay S j k z ≤ 226 := by
  have h1 := (ffd_le (ffP S j k) (aN S) (aD S + dw (nRow z (mRo (aM S j k))))).2
  have h2 := (dw_le (nRow z (mRo (aM S j k)))).2
  unfold nDay
  omega
theorem ok_note {S : AT} {X : CX} {T j k : Nat} {z : Bool} (h : cOK S X T) (hT : T < 512) (hj : j < aL S) (hk : k < aN S) : cOK (nsNote S j k z) (sW X j k (wr (xW X j k) (mAn (aM S j k)).length z)) (T + 1) := by
  obtain ⟨m1, m2, m3, m4, m5, m6, m7, m8⟩ := h.2.2.1 j k hj (by have := h.1.1; omega)
  obtain ⟨s1, s2, s3, s4⟩ := h.2.1 k hk
  refine ok_ma h hT hj hk ⟨fun _ _ e => fU2_n e, rfl, rfl, rfl⟩ ⟨mv_le m1 s3, m2, ?_, ?_, ?_, ?_, fun _ => ?_, fun q => absurd hk (by omega)⟩ (Or.inr (nDay_free hk))
  · show (mAn (aM S j k) ++ [z]).length ≤ T + 1
    rw [List.length_append]; simp; exact m3
  · show nRow z (mRo (aM S j k)) ≤ T + 1
    unfold nRow; split <;> omega
  · have := nDay_le (S := S) (j := j) (k := k) (z := z) h.1.2.2.1 h.1.1
    show nDay S j k z + 1 ≤ 400; omega
  · show tie (fU2 (xW X) j k _ j k) (mAn (aM S j k) ++ [z])
    rw [fU2_s]; exact tie_add z m6
  · show mv _ _ _ _ _ = mvs _ _ _ (mTo (aM S j k)) (mAn (aM S j k) ++ [z])
    rw [mvs_snoc, ← m7 hk]
