/-! THE REFERENCE: what needs what -/
theorem tb_or {r j i : Nat} : (r ||| 2 ^ j).testBit i = (r.testBit i || decide (j = i)) := by rw [Nat.testBit_or, Nat.testBit_two_pow]
def hoJ (S : AT) (k r : Nat) : Nat → Nat
  | 0 => r
  | j + 1 => if (hoJ S k r j).testBit k && (aS S k).2.2.2.testBit j then hoJ S k r j ||| 2 ^ j else hoJ S k r j
def hoK (S : AT) (r : Nat) : Nat → Nat
  | 0 => r
  | k + 1 => hoJ S k (hoK S r k) (aN S)
/-- the reference's reached set, after so many rounds -/
def hoR (S : AT) (a : Nat) : Nat → Nat
  | 0 => 2 ^ a
  | t + 1 => hoK S (hoR S a t) (aN S)
theorem hoJ_S {S : AT} {k r j : Nat} : hoJ S k r (j + 1) = if (hoJ S k r j).testBit k && (aS S k).2.2.2.testBit j then hoJ S k r j ||| 2 ^ j else hoJ S k r j := rfl
theorem hoJ_mono {S : AT} {k r i : Nat} (h : r.testBit i = true) : ∀ j, (hoJ S k r j).testBit i = true
  | 0 => h
  | j + 1 => by
    have ih := hoJ_mono (S := S) (k := k) h j
    rw [hoJ_S]
    split
    · rw [tb_or, ih]; rfl
    · exact ih
theorem hoJ_add {S : AT} {k r i : Nat} (h : r.testBit k = true) (hn : (aS S k).2.2.2.testBit i = true) : ∀ j, i < j → (hoJ S k r j).testBit i = true
  | 0, hi => absurd hi (Nat.not_lt_zero i)
  | j + 1, hi => by
    rw [hoJ_S]
    by_cases hij : i = j
    · subst hij
      rw [hoJ_mono h i, hn]
      rw [if_pos (show (true && true) = true from rfl), tb_or, decide_eq_true rfl, Bool.or_true]
    · have ih := hoJ_add (S := S) h hn j (by omega)
      split
      · rw [tb_or, ih]; rfl
      · exact ih
def clS (S : AT) (C : Nat) : Prop := ∀ k, k < aN S → C.testBit k = true → ∀ i, (aS S k).2.2.2.testBit i = true → C.testBit i = true
theorem hoJ_in {S : AT} {k r C : Nat} (hc : clS S C) (hk : k < aN S) (h : ∀ i, r.testBit i = true → C.testBit i = true) : ∀ j i, (hoJ S k r j).testBit i = true → C.testBit i = true
  | 0, i, q => h i q
  | j + 1, i, q => by
    have ih := hoJ_in hc hk h j
    rw [hoJ_S] at q
    split at q
    · rename_i q2
      rw [Bool.and_eq_true] at q2
      rw [tb_or, Bool.or_eq_true] at q
      rcases q with q | q
      · exact ih i q
      · rw [← of_decide_eq_true q]
        exact hc k hk (ih k q2.1) j q2.2
    · exact ih i q
theorem hoK_mono {S : AT} {r i : Nat} (h : r.testBit i = true) : ∀ k, (hoK S r k).testBit i = true
  | 0 => h
  | k + 1 => hoJ_mono (hoK_mono h k) _
theorem hoK_in {S : AT} {r C : Nat} (hc : clS S C) (h : ∀ i, r.testBit i = true → C.testBit i = true) : ∀ k, k ≤ aN S → ∀ i, (hoK S r k).testBit i = true → C.testBit i = true
  | 0, _, i, q => h i q
  | k + 1, hk, i, q => hoJ_in hc (by omega) (hoK_in hc h k (by omega)) _ i q
theorem hoR_in {S : AT} {a C : Nat} (hc : clS S C) (h : C.testBit a = true) : ∀ t i, (hoR S a t).testBit i = true → C.testBit i = true
  | 0, i, q => by
    have q : (2 ^ a).testBit i = true := q
    rw [Nat.testBit_two_pow] at q
    rw [← of_decide_eq_true q]; exact h
  | t + 1, i, q => hoK_in hc (hoR_in hc h t) _ (Nat.le_refl _) i q
theorem nbL_iff {S : AT} {r i : Nat} : ∀ {m}, (nbL S r m).testBit i = true ↔ ∃ k, k < m ∧ r.testBit k = true ∧ (aS S k).2.2.2.testBit i = true
  | 0 => by
    show (0 : Nat).testBit i = true ↔ _
    rw [Nat.zero_testBit]
    exact ⟨fun q => (by cases q), fun ⟨k, hk, _⟩ => absurd hk (Nat.not_lt_zero k)⟩
  | m + 1 => by
    have ih := nbL_iff (S := S) (r := r) (i := i) (m := m)
    show (if r.testBit m then nbL S r m ||| (aS S m).2.2.2 else nbL S r m).testBit i = true ↔ _
    by_cases hm : r.testBit m = true
    · rw [if_pos hm, Nat.testBit_or, Bool.or_eq_true, ih]
      constructor
      · rintro (⟨k, h1, h2, h3⟩ | h)
        · exact ⟨k, by omega, h2, h3⟩
        · exact ⟨m, Nat.lt_succ_self m, hm, h⟩
      · rintro ⟨k, h1, h2, h3⟩
        by_cases hkm : k = m
        · subst hkm; exact Or.inr h3
        · exact Or.inl ⟨k, by omega, h2, h3⟩
    · rw [if_neg hm, ih]
      constructor
      · rintro ⟨k, h1, h2, h3⟩; exact ⟨k, by omega, h2, h3⟩
      · rintro ⟨k, h1, h2, h3⟩
        by_cases hkm : k = m
        · subst hkm; exact absurd h2 hm
        · exact ⟨k, by omega, h2, h3⟩
theorem ctn_S {S : AT} {a t : Nat} : ctn S a (t + 1) = ctn S a t ||| nbL S (ctn S a t) (aN S) := rfl
theorem ctn_in {S : AT} {a : Nat} (hs : ∀ k, k < aN S → (aS S k).2.2.2 < 2 ^ aN S) : ∀ t i, (ctn S a t).testBit i = true → (hoR S a t).testBit i = true
  | 0, _, q => q
  | t + 1, i, q => by
    have ih := ctn_in (a := a) hs t
    rw [ctn_S, Nat.testBit_or, Bool.or_eq_true] at q
    rcases q with q | q
    · exact hoK_mono (ih i q) _
    · obtain ⟨k, h1, h2, h3⟩ := nbL_iff.mp q
      have hi : i < aN S := by
        refine Nat.lt_of_not_le fun hni => ?_
        have h4 := Nat.testBit_lt_two_pow (Nat.lt_of_lt_of_le (hs k h1) (Nat.pow_le_pow_right (by decide) hni))
        rw [h4] at h3; cases h3
      have h5 : (hoK S (hoR S a t) (k + 1)).testBit i = true := hoJ_add (hoK_mono (ih k h2) k) h3 _ hi
      have h6 : ∀ m, k + 1 ≤ m → (hoK S (hoR S a t) m).testBit i = true := by
        intro m
        induction m with
        | zero => intro q; omega
        | succ m ihm =>
          intro q
          by_cases hm : m = k
          · subst hm; exact h5
          · exact hoJ_mono (ihm (by omega)) _
      exact h6 _ h1
theorem ctn_lt2 {S : AT} {a : Nat} (hs : ∀ k, k < aN S → (aS S k).2.2.2 < 2 ^ aN S) (ha : a < aN S) : ∀ t, ctn S a t < 2 ^ aN S
  | 0 => Nat.pow_lt_pow_right (a := 2) (by decide) ha
  | t + 1 => by
    refine Nat.or_lt_two_pow (ctn_lt2 hs ha t) ?_
    have : ∀ m, m ≤ aN S → nbL S (ctn S a t) m < 2 ^ aN S := by
      intro m
      induction m with
      | zero => intro _; exact Nat.pow_pos (by decide)
      | succ m ih =>
        intro hm
        show (if (ctn S a t).testBit m then nbL S (ctn S a t) m ||| (aS S m).2.2.2 else nbL S (ctn S a t) m) < 2 ^ aN S
        split
        · exact Nat.or_lt_two_pow (ih (by omega)) (hs m (by omega))
        · exact ih (by omega)
    exact this _ (Nat.le_refl _)
theorem cntB_mono {P Q : Nat → Bool} : ∀ {n : Nat}, (∀ i, i < n → P i = true → Q i = true) → cntB P n ≤ cntB Q n
  | 0, _ => Nat.le_refl 0
  | n + 1, h => by
    have ih := cntB_mono (n := n) fun i hi => h i (by omega)
    have hn := h n (Nat.lt_succ_self n)
    rw [cntB_S, cntB_S]
    by_cases hp : P n = true
    · rw [if_pos hp, if_pos (hn hp)]; omega
    · rw [if_neg hp]; omega
theorem cntB_more {P Q : Nat → Bool} {i : Nat} : ∀ {n : Nat}, (∀ i, i < n → P i = true → Q i = true) → i < n → P i = false → Q i = true → cntB P n + 1 ≤ cntB Q n
  | 0, _, hi, _, _ => absurd hi (Nat.not_lt_zero i)
  | n + 1, h, hi, hp, hq => by
    rw [cntB_S, cntB_S]
    by_cases hin : i = n
    · subst hin
      have ih := cntB_mono (n := i) fun i hi => h i (by omega)
      rw [hp, hq, if_pos rfl, if_neg (by decide)]; omega
    · have ih := cntB_more (n := n) (fun i hi => h i (by omega)) (by omega) hp hq
      have hn := h n (Nat.lt_succ_self n)
      by_cases hpn : P n = true
      · rw [if_pos hpn, if_pos (hn hpn)]; omega
      · rw [if_neg hpn]; omega
theorem ctn_grow {S : AT} {a : Nat} (hs : ∀ k, k < aN S → (aS S k).2.2.2 < 2 ^ aN S) (ha : a < aN S) {t : Nat} (h : ctn S a (t + 1) ≠ ctn S a t) : cntB (fun i => (ctn S a t).testBit i) (aN S) + 1 ≤ cntB (fun i => (ctn S a (t + 1)).testBit i) (aN S) := by
  have sub : ∀ i, (ctn S a t).testBit i = true → (ctn S a (t + 1)).testBit i = true := fun i q => by rw [ctn_S, Nat.testBit_or, q]; rfl
  have ex : ∃ i, (ctn S a t).testBit i = false ∧ (ctn S a (t + 1)).testBit i = true := by
    refine Classical.byContradiction fun hn => h (Nat.eq_of_testBit_eq fun i => ?_)
    cases h1 : (ctn S a t).testBit i with
    | true => exact sub i h1
    | false =>
      cases h2 : (ctn S a (t + 1)).testBit i with
      | false => rfl
      | true => exact absurd ⟨i, h1, h2⟩ hn
  obtain ⟨i, h1, h2⟩ := ex
  have hi : i < aN S := by
    refine Nat.lt_of_not_le fun hni => ?_
    have h4 := Nat.testBit_lt_two_pow (Nat.lt_of_lt_of_le (ctn_lt2 hs ha (t + 1)) (Nat.pow_le_pow_right (by decide) hni))
    rw [h4] at h2; cases h2
  exact cntB_more (fun i _ => sub i) hi h1 h2
theorem ctn_fix {S : AT} {a : Nat} (hs : ∀ k, k < aN S → (aS S k).2.2.2 < 2 ^ aN S) (ha : a < aN S) : ctn S a (aN S + 1) = ctn S a (aN S) := by
  refine Classical.byContradiction fun h => ?_
  have st : ∀ t, ctn S a (t + 1) = ctn S a t → ∀ d, ctn S a (t + d + 1) = ctn S a (t + d) := by
    intro t ht d
    induction d with
    | zero => exact ht
    | succ d ih => rw [show t + (d + 1) = t + d + 1 from rfl, ctn_S, ih, ← ctn_S, ih]
  have all : ∀ t, t ≤ aN S → t + 1 ≤ cntB (fun i => (ctn S a (t + 1)).testBit i) (aN S) := by
    intro t
    induction t with
    | zero =>
      intro _
      have := ctn_grow hs ha (t := 0) (fun q => h (by have := st 0 q (aN S); rwa [Nat.zero_add] at this))
      omega
    | succ t ih =>
      intro ht
      have h1 := ih (by omega)
      have h2 := ctn_grow hs ha (t := t + 1) (fun q => h (by have := st (t + 1) q (aN S - (t + 1)); rwa [show t + 1 + (aN S - (t + 1)) = aN S by omega] at this))
      omega
  have h1 := all (aN S) (Nat.le_refl _)
  have h2 := cntB_le (fun i => (ctn S a (aN S + 1)).testBit i) (aN S)
  omega
theorem ctn_has {S : AT} {a : Nat} : ∀ t, (ctn S a t).testBit a = true
  | 0 => by show (2 ^ a).testBit a = true; rw [Nat.testBit_two_pow, decide_eq_true rfl]
  | t + 1 => by rw [ctn_S, Nat.testBit_or, ctn_has t]; rfl
/-- both sides reach the same -/
theorem ho_ctn {S : AT} {a i : Nat} (hs : ∀ k, k < aN S → (aS S k).2.2.2 < 2 ^ aN S) (ha : a < aN S) : (hoR S a (aN S)).testBit i = (ctn S a (aN S)).testBit i := by
  have hc : clS S (ctn S a (aN S)) := fun k hk hq i hi => by
    rw [← ctn_fix hs ha, ctn_S, Nat.testBit_or, nbL_iff.mpr ⟨k, hk, hq, hi⟩, Bool.or_true]
  cases h1 : (hoR S a (aN S)).testBit i with
  | true => exact (hoR_in hc (ctn_has _) _ i h1).symm
  | false =>
    cases h2 : (ctn S a (aN S)).testBit i with
    | false => rfl
    | true => rw [ctn_in hs _ i h2] at h1; cases h1
/-- a row of booleans as a number's bits -/
def bF (r : Nat) : Nat → Int32 := fun t => zb (r.testBit t)
theorem bF_put {r j : Nat} {b : Bool} (h : r.testBit j = true → b = true) : upd (bF r) j (zb b &&& 1) = bF (if b then r ||| 2 ^ j else r) := by
  funext t
  unfold bF
  by_cases ht : t = j
  · subst ht
    rw [pk_us]
    cases b with
    | true => rw [if_pos rfl, tb_or, decide_eq_true rfl, Bool.or_true]; rfl
    | false =>
      have : r.testBit t = false := by
        cases hq : r.testBit t with
        | false => rfl
        | true => cases h hq
      rw [if_neg (by decide), this]; rfl
  · rw [pk_un ht]
    cases b with
    | true => rw [if_pos rfl, tb_or, decide_eq_false (fun q => ht q.symm), Bool.or_false]
    | false => rw [if_neg (by decide)]
theorem bF_0 {a : Nat} : upd (fun _ => 0) a ((1 : Int32) &&& 1) = bF (2 ^ a) := by
  funext t
  unfold bF
  rw [Nat.testBit_two_pow]
  by_cases ht : t = a
  · subst ht
    rw [pk_us, decide_eq_true rfl]; rfl
  · rw [pk_un ht, decide_eq_false (fun q => ht q.symm)]; rfl
theorem hoJ_t {S : AT} {k r j : Nat} {b : Bool} (h : b = ((hoJ S k r j).testBit j || ((hoJ S k r j).testBit k && (aS S k).2.2.2.testBit j))) : bF (if b then hoJ S k r j ||| 2 ^ j else hoJ S k r j) = bF (hoJ S k r (j + 1)) := by
  congr 1
  rw [hoJ_S, h]
  cases h1 : (hoJ S k r j).testBit j with
  | false => rfl
  | true =>
    rw [Bool.true_or, if_pos rfl]
    have e : hoJ S k r j ||| 2 ^ j = hoJ S k r j := Nat.eq_of_testBit_eq fun i => by
      rw [tb_or]
      by_cases hij : j = i
      · subst hij; rw [h1]; rfl
      · rw [decide_eq_false hij, Bool.or_false]
    rw [e]
    split <;> rfl

set_option maxHeartbeats 4000000 in
set_option maxRecDepth 100000 in
theorem c_X11_hangsOn (l : Launch) (G : mq_G) (A : Nat → Prop) (f : mq_F) (ad : AD) (S : AT) (X : CX) (S2 : AT) (Y : MX) (O : OX) (T : Nat) (a b : Nat) : Met l yX11_hangsOn wsX11_hangsOn ({ frames := 10, cells := 1, slots := 10, locals := 184 } : Room) (mq_Pc G A f (WR G f ad S X S2 Y O ∧ mOK S2 Y T ∧ a < aN S2 ∧ b < aN S2) [.ref (ad 20 0 0), .int (nI a), .int (nI b)]) (mq_Qi G A (fun r g => (∀ y e, f y = some e → g y = some e) ∧ r = zb ((ctn S2 a (aN S2)).testBit b))) 1 10 A := by
  refine Met.ofW (cc := cX11_hangsOn) (maxL := 7) (ret := (some .boolean)) (by decide) rfl ?_
  intro p e s m args below meth c s₁ B hml hv
  obtain ⟨rfl, ⟨hK, hZ, hM, hA⟩, hp⟩ := hv
  have hx := B.exec
  have hb := B.bytes
  have hr := B.returns
  have hts := atoms_spec (ws := wsX11_hangsOn) B.pre
  have hown : s.vm.findClass RX11 = some m.cls := findClass_of_methodNamed B.named
  have hlocks := B.notSynchronized
  have hS : va_S A s.heap s.heap [] := va_S.rf
  have hl := lv_entry ([.ref (ad 20 0 0), .int (nI a), .int (nI b)]) (n := 7) (Nat.le_of_ble_eq_true rfl)
  rw [lg_entry_eq]
  generalize (lg_sl ([.ref (ad 20 0 0), .int (nI a), .int (nI b)]) ++ List.replicate (7 - (lg_sl ([.ref (ad 20 0 0), .int (nI a), .int (nI b)])).length) Slot.unset).toArray = ls at hl ⊢
  have hl : lv_has ls 7 [(0, .ref (ad 20 0 0)), (1, .int (nI a)), (2, .int (nI b))] := hl
  have w0 := hts (.arrayClass .boolean) (List.mem_of_getElem? (i := 1) rfl)
  have w1 := hts (.fieldLink RX11 10 "TutorlightModel" "skills" "Ljava/util/ArrayList;") (List.mem_of_getElem? (i := 2) rfl)
  have w2 := hts (.classLink RX11 52 "TutorlightModel$Skill") (List.mem_of_getElem? (i := 3) rfl)
  have w3 := hts (.fieldLink RX11 68 "TutorlightModel$Skill" "needs" "[Z") (List.mem_of_getElem? (i := 4) rfl)
  have nX11 : ∀ w ∈ wsX110, w ∈ wsX11_hangsOn := fun _ h => List.mem_cons_of_mem _ (List.mem_append_left _ (List.mem_append_left _ (List.mem_append_left _ (List.mem_append_right _ h))))
  have nX10 : ∀ w ∈ wsX100, w ∈ wsX11_hangsOn := fun _ h => List.mem_cons_of_mem _ (List.mem_append_left _ (List.mem_append_left _ (List.mem_append_right _ h)))
  obtain ⟨hR, hO, ha, hb9⟩ := hp
  obtain ⟨⟨X9, ⟨hn, hl4, hd2, hT⟩, hsk, hma, hdc, hle, -⟩, ⟨hns, hnc⟩, ⟨hls, hlc⟩, hac, hmc⟩ := id hO
  have hsn : ∀ k, k < aN S2 → (aS S2 k).2.2.2 < 2 ^ aN S2 := fun k hk => (hsk k hk).2.2.2
  refine lv_bipush (v := 10) hx hb dX11_hangsOn_0 (by decide) ?_
  refine mq_newZ (N' := 10) hx hb w0 hK hM hS hA (by decide) (rfl) (Nat.le_of_ble_eq_true rfl) (Nat.le_of_ble_eq_true rfl) (Nat.le_of_ble_eq_true rfl) dX11_hangsOn_2 (fun q2 f_1 H hq2 e_2 hM hS => ?_)
  refine W.widen (k := 1) (n := 10) (Nat.le_of_ble_eq_true rfl) (Nat.le_of_ble_eq_true rfl) ?_
  have h_3 : f_1 q2 = some (.inl (G.2 2, 10, .inl (fun _ => 0))) := mq_s e_2
  refine lv_astore_n (lv' := [(3, .ref q2), (0, .ref (ad 20 0 0)), (1, .int (nI a)), (2, .int (nI b))]) hx hb dX11_hangsOn_4 rfl hl (by decide) rfl (fun ls hl => ?_)
  refine lv_aload_n hx hb dX11_hangsOn_5 rfl (lv_at hl 0 rfl) ?_
  refine lv_iload_n hx hb dX11_hangsOn_6 rfl (lv_at hl 2 rfl) ?_
  refine lv_iconst (v := 1) hx hb dX11_hangsOn_7 (by decide) ?_
  refine mq_zast hx hb hK hM hS h_3 (vp_in_nI (by omega) (by omega)) dX11_hangsOn_8 (fun f_4 H locs e_5 hM hS => ?_)
  rw [show (nI a : Int32).toNatClampNeg = a from nI_clamp (by omega)] at e_5
  rw [show (upd (fun _ => 0) a (1 &&& 1)) = (bF (2 ^ a)) from bF_0] at e_5
  have h_6 : f_4 q2 = some (.inl (G.2 2, 10, .inl (bF (2 ^ a)))) := mq_s e_5
  refine lv_iconst (v := 0) hx hb dX11_hangsOn_9 (by decide) ?_
  refine lv_istore (lv' := [(4, .int 0), (3, .ref q2), (0, .ref (ad 20 0 0)), (1, .int (nI a)), (2, .int (nI b))]) hx hb dX11_hangsOn_10 hl (by decide) rfl (fun ls hl => ?_)
  have K12 : ∀ (n9 : Nat) (t r9 : Nat), (aN S2 - t) < n9 → (t ≤ aN S2) → (r9 = hoR S2 a t) → ∀ (f9 : mq_F), f9 q2 = some (.inl (G.2 2, 10, .inl (bF (r9)))) → (∀ y e, f y = some e → f9 y = some e) → ∀ (H : Heap) (locs : List Loc), mq_W G.1 A f9 H → va_S A s.heap H locs → ∀ (ls : Array Slot), lv_has ls 7 [(0, .ref (ad 20 0 0)), (1, .int (nI a)), (2, .int (nI b)), (3, .ref q2), (4, .int (nI t))] → W p l e (headSpec wsX11_hangsOn ({ frames := 10, cells := 1, slots := 10, locals := 184 } : Room)).room s m ([.ref (ad 20 0 0), .int (nI a), .int (nI b)] : List Value).toArray below meth c H locs 1 10 (MQ below (mq_Qi G A (fun r g => (∀ y e, f y = some e → g y = some e) ∧ r = zb ((ctn S2 a (aN S2)).testBit b))) ([.ref (ad 20 0 0), .int (nI a), .int (nI b)] : List Value).toArray s 1 10 A) (F0 m 12 ls []) := by
    intro n9
    induction n9 with
    | zero => intro t r9 hn9; exact absurd hn9 (Nat.not_lt_zero _)
    | succ n9 ih12 =>
      intro t r9 hn9 ht hr9 f9 hq9 hk9 H locs hM hS ls hl
      have hR9 := RR.mono hR hk9
      have y20_242 := hR9.1 _ _ _ _ (t20)
      have y21_243 := hR9.1 _ _ _ _ (t21)
      refine lv_iload hx hb dX11_hangsOn_12 (lv_at hl 4 rfl) ?_
      refine lv_aload_n hx hb dX11_hangsOn_14 rfl (lv_at hl 0 rfl) ?_
      refine mq_get (ci := 16) (v := .ref (ad 21 0 0)) (C := RX11) (T := TX11) (N := 4) hx hb hts nX11 hown hK hM y20_242 rfl 2 (by decide) w1 (fun _ h9 => h9) rfl dX11_hangsOn_15 ?_
      refine mq_calli (va_runV (As := []) (rest := [.int (nI t)]) ⟨hx, hb, hml, hown, hts⟩ (c_Jx4a65c_size_8abf5 l G A f9 (ad 21 0 0) (yS Y).1 (lsD G (yS Y).2 (ad 22 0 0)) (aN S2)) (cwV 0 hts gX11_hangsOn_Jx4a65c_size_8abf5 rfl rfl rfl (by decide +kernel) ⟨Nat.le_of_ble_eq_true rfl, Nat.le_of_ble_eq_true rfl⟩) (mq_preV hK hZ hS hA hM (q := (RJx4a65c, TJx4a65c, 3)) y21_243 rfl (y21_243) _) rfl rfl hl.1 rfl (lv_room (Nat.le_of_ble_eq_true rfl)) dX11_hangsOn_18 ⟨Nat.le_of_ble_eq_true rfl, Nat.le_of_ble_eq_true rfl⟩) hS (fun r18 g18 H locs p18 hM hS => ?_)
      refine W.widen (k := 1) (n := 10) (Nat.le_of_ble_eq_true rfl) (Nat.le_of_ble_eq_true rfl) ?_
      obtain ⟨rfl, rfl⟩ := p18
      refine lv_icmp_ge (tgt := 116) hx hb dX11_hangsOn_21 (by decide) (fun c_21 => ?_) (fun c_21 => ?_)
      · replace c_21 : nI (aN S2) ≤ nI t := c_21
        rw [nI_leI (by omega) (by omega)] at c_21
        refine lv_aload_n hx hb dX11_hangsOn_116 rfl (lv_at hl 3 rfl) ?_
        refine lv_iload_n hx hb dX11_hangsOn_117 rfl (lv_at hl 2 rfl) ?_
        refine mq_zald hx hb hK hM hq9 (vp_in_nI (by omega) (by omega)) dX11_hangsOn_118 ?_
        rw [show (nI b : Int32).toNatClampNeg = b from nI_clamp (by omega)]
        rw [show (bF (r9)) b = zb (r9.testBit b) from rfl]
        exact mq_zret (v := zb (r9.testBit b)) hx hb hr (zb_nar _) hlocks hM hS (⟨hk9, by rw [← ho_ctn hsn ha, hr9, show t = aN S2 by omega]⟩) dX11_hangsOn_119
      · replace c_21 : ¬ nI (aN S2) ≤ nI t := c_21
        rw [nI_leI (by omega) (by omega)] at c_21
        refine lv_iconst (v := 0) hx hb dX11_hangsOn_24 (by decide) ?_
        refine lv_istore (lv' := [(5, .int 0), (0, .ref (ad 20 0 0)), (1, .int (nI a)), (2, .int (nI b)), (3, .ref q2), (4, .int (nI t))]) hx hb dX11_hangsOn_25 hl (by decide) rfl (fun ls hl => ?_)
        have K27 : ∀ (n9 : Nat) (i r8 : Nat), (aN S2 - i) < n9 → (i ≤ aN S2) → (r8 = hoK S2 r9 i) → ∀ (f8 : mq_F), f8 q2 = some (.inl (G.2 2, 10, .inl (bF (r8)))) → (∀ y e, f y = some e → f8 y = some e) → ∀ (H : Heap) (locs : List Loc), mq_W G.1 A f8 H → va_S A s.heap H locs → ∀ (ls : Array Slot), lv_has ls 7 [(0, .ref (ad 20 0 0)), (1, .int (nI a)), (2, .int (nI b)), (3, .ref q2), (4, .int (nI t)), (5, .int (nI i))] → W p l e (headSpec wsX11_hangsOn ({ frames := 10, cells := 1, slots := 10, locals := 184 } : Room)).room s m ([.ref (ad 20 0 0), .int (nI a), .int (nI b)] : List Value).toArray below meth c H locs 1 10 (MQ below (mq_Qi G A (fun r g => (∀ y e, f y = some e → g y = some e) ∧ r = zb ((ctn S2 a (aN S2)).testBit b))) ([.ref (ad 20 0 0), .int (nI a), .int (nI b)] : List Value).toArray s 1 10 A) (F0 m 27 ls []) := by
          intro n9
          induction n9 with
          | zero => intro i r8 hn9; exact absurd hn9 (Nat.not_lt_zero _)
          | succ n9 ih27 =>
            intro i r8 hn9 hi hr8 f8 hq8 hk8 H locs hM hS ls hl
            have hR8 := RR.mono hR hk8
            have y20_244 := hR8.1 _ _ _ _ (t20)
            have y21_245 := hR8.1 _ _ _ _ (t21)
            refine lv_iload hx hb dX11_hangsOn_27 (lv_at hl 5 rfl) ?_
            refine lv_aload_n hx hb dX11_hangsOn_29 rfl (lv_at hl 0 rfl) ?_
            refine mq_get (ci := 16) (v := .ref (ad 21 0 0)) (C := RX11) (T := TX11) (N := 4) hx hb hts nX11 hown hK hM y20_244 rfl 2 (by decide) w1 (fun _ h9 => h9) rfl dX11_hangsOn_30 ?_
            refine mq_calli (va_runV (As := []) (rest := [.int (nI i)]) ⟨hx, hb, hml, hown, hts⟩ (c_Jx4a65c_size_8abf5 l G A f8 (ad 21 0 0) (yS Y).1 (lsD G (yS Y).2 (ad 22 0 0)) (aN S2)) (cwV 0 hts gX11_hangsOn_Jx4a65c_size_8abf5 rfl rfl rfl (by decide +kernel) ⟨Nat.le_of_ble_eq_true rfl, Nat.le_of_ble_eq_true rfl⟩) (mq_preV hK hZ hS hA hM (q := (RJx4a65c, TJx4a65c, 3)) y21_245 rfl (y21_245) _) rfl rfl hl.1 rfl (lv_room (Nat.le_of_ble_eq_true rfl)) dX11_hangsOn_33 ⟨Nat.le_of_ble_eq_true rfl, Nat.le_of_ble_eq_true rfl⟩) hS (fun r33 g33 H locs p33 hM hS => ?_)
            refine W.widen (k := 1) (n := 10) (Nat.le_of_ble_eq_true rfl) (Nat.le_of_ble_eq_true rfl) ?_
            obtain ⟨rfl, rfl⟩ := p33
            refine lv_icmp_ge (tgt := 110) hx hb dX11_hangsOn_36 (by decide) (fun c_36 => ?_) (fun c_36 => ?_)
            · replace c_36 : nI (aN S2) ≤ nI i := c_36
              rw [nI_leI (by omega) (by omega)] at c_36
              refine lv_iinc (v := nI (t + 1)) (lv' := [(4, .int (nI (t + 1))), (0, .ref (ad 20 0 0)), (1, .int (nI a)), (2, .int (nI b)), (3, .ref q2), (5, .int (nI i))]) hx hb dX11_hangsOn_110 hl (k := 4) rfl (nI_add _ _) (by decide) rfl (fun ls hl => ?_)
              refine lv_goto (tgt := 12) hx hb dX11_hangsOn_113 (by decide) ?_
              exact ih12 (t + 1) r8 (by omega) (by omega) (by rw [hr8, show i = aN S2 by omega, hr9]; rfl) _ hq8 (hk8) _ _ hM hS _ (lv_sub hl [1, 2, 3, 4, 0] rfl)
            · replace c_36 : ¬ nI (aN S2) ≤ nI i := c_36
              rw [nI_leI (by omega) (by omega)] at c_36
              refine lv_iconst (v := 0) hx hb dX11_hangsOn_39 (by decide) ?_
              refine lv_istore (lv' := [(6, .int 0), (0, .ref (ad 20 0 0)), (1, .int (nI a)), (2, .int (nI b)), (3, .ref q2), (4, .int (nI t)), (5, .int (nI i))]) hx hb dX11_hangsOn_40 hl (by decide) rfl (fun ls hl => ?_)
              have K42 : ∀ (n9 : Nat) (jj : Nat), (aN S2 - jj) < n9 → (jj ≤ aN S2) → ∀ (f7 : mq_F), f7 q2 = some (.inl (G.2 2, 10, .inl (bF (hoJ S2 i r8 jj)))) → (∀ y e, f y = some e → f7 y = some e) → ∀ (H : Heap) (locs : List Loc), mq_W G.1 A f7 H → va_S A s.heap H locs → ∀ (ls : Array Slot), lv_has ls 7 [(0, .ref (ad 20 0 0)), (1, .int (nI a)), (2, .int (nI b)), (3, .ref q2), (4, .int (nI t)), (5, .int (nI i)), (6, .int (nI jj))] → W p l e (headSpec wsX11_hangsOn ({ frames := 10, cells := 1, slots := 10, locals := 184 } : Room)).room s m ([.ref (ad 20 0 0), .int (nI a), .int (nI b)] : List Value).toArray below meth c H locs 1 10 (MQ below (mq_Qi G A (fun r g => (∀ y e, f y = some e → g y = some e) ∧ r = zb ((ctn S2 a (aN S2)).testBit b))) ([.ref (ad 20 0 0), .int (nI a), .int (nI b)] : List Value).toArray s 1 10 A) (F0 m 42 ls []) := by
                intro n9
                induction n9 with
                | zero => intro jj hn9; exact absurd hn9 (Nat.not_lt_zero _)
                | succ n9 ih42 =>
                  intro jj hn9 hjj f7 hq7 hk7 H locs hM hS ls hl
                  have hR7 := RR.mono hR hk7
                  have y20_246 := hR7.1 _ _ _ _ (t20)
                  have y21_247 := hR7.1 _ _ _ _ (t21)
                  refine lv_iload hx hb dX11_hangsOn_42 (lv_at hl 6 rfl) ?_
                  refine lv_aload_n hx hb dX11_hangsOn_44 rfl (lv_at hl 0 rfl) ?_
                  refine mq_get (ci := 16) (v := .ref (ad 21 0 0)) (C := RX11) (T := TX11) (N := 4) hx hb hts nX11 hown hK hM y20_246 rfl 2 (by decide) w1 (fun _ h9 => h9) rfl dX11_hangsOn_45 ?_
                  refine mq_calli (va_runV (As := []) (rest := [.int (nI jj)]) ⟨hx, hb, hml, hown, hts⟩ (c_Jx4a65c_size_8abf5 l G A f7 (ad 21 0 0) (yS Y).1 (lsD G (yS Y).2 (ad 22 0 0)) (aN S2)) (cwV 0 hts gX11_hangsOn_Jx4a65c_size_8abf5 rfl rfl rfl (by decide +kernel) ⟨Nat.le_of_ble_eq_true rfl, Nat.le_of_ble_eq_true rfl⟩) (mq_preV hK hZ hS hA hM (q := (RJx4a65c, TJx4a65c, 3)) y21_247 rfl (y21_247) _) rfl rfl hl.1 rfl (lv_room (Nat.le_of_ble_eq_true rfl)) dX11_hangsOn_48 ⟨Nat.le_of_ble_eq_true rfl, Nat.le_of_ble_eq_true rfl⟩) hS (fun r48 g48 H locs p48 hM hS => ?_)
                  refine W.widen (k := 1) (n := 10) (Nat.le_of_ble_eq_true rfl) (Nat.le_of_ble_eq_true rfl) ?_
                  obtain ⟨rfl, rfl⟩ := p48
                  refine lv_icmp_ge (tgt := 104) hx hb dX11_hangsOn_51 (by decide) (fun c_51 => ?_) (fun c_51 => ?_)
                  · replace c_51 : nI (aN S2) ≤ nI jj := c_51
                    rw [nI_leI (by omega) (by omega)] at c_51
                    refine lv_iinc (v := nI (i + 1)) (lv' := [(5, .int (nI (i + 1))), (0, .ref (ad 20 0 0)), (1, .int (nI a)), (2, .int (nI b)), (3, .ref q2), (4, .int (nI t)), (6, .int (nI jj))]) hx hb dX11_hangsOn_104 hl (k := 5) rfl (nI_add _ _) (by decide) rfl (fun ls hl => ?_)
                    refine lv_goto (tgt := 27) hx hb dX11_hangsOn_107 (by decide) ?_
                    exact ih27 (i + 1) (hoJ S2 i r8 jj) (by omega) (by omega) (by rw [show jj = aN S2 by omega, hr8]; rfl) _ hq7 (hk7) _ _ hM hS _ (lv_sub hl [1, 2, 3, 4, 5, 0] rfl)
                  · replace c_51 : ¬ nI (aN S2) ≤ nI jj := c_51
                    rw [nI_leI (by omega) (by omega)] at c_51
                    refine lv_aload_n hx hb dX11_hangsOn_54 rfl (lv_at hl 3 rfl) ?_
                    refine lv_iload hx hb dX11_hangsOn_55 (lv_at hl 6 rfl) ?_
                    refine lv_aload_n hx hb dX11_hangsOn_57 rfl (lv_at hl 3 rfl) ?_
                    refine lv_iload hx hb dX11_hangsOn_58 (lv_at hl 6 rfl) ?_
                    refine mq_zald hx hb hK hM hq7 (vp_in_nI (by omega) (by omega)) dX11_hangsOn_60 ?_
                    rw [show (nI jj : Int32).toNatClampNeg = jj from nI_clamp (by omega)]
                    rw [show (bF (hoJ S2 i r8 jj)) jj = zb ((hoJ S2 i r8 jj).testBit jj) from rfl]
                    refine lv_if_ne (tgt := 92) hx hb dX11_hangsOn_61 (by decide) (fun c_61 => ?_) (fun c_61 => ?_)
                    · replace c_61 : ¬ zb ((hoJ S2 i r8 jj).testBit jj) = 0 := c_61
                      rw [zb_n0] at c_61
                      refine lv_iconst (v := 1) hx hb dX11_hangsOn_92 (by decide) ?_
                      refine lv_goto (tgt := 97) hx hb dX11_hangsOn_93 (by decide) ?_
                      refine mq_zast hx hb hK hM hS hq7 (vp_in_nI (by omega) (by omega)) dX11_hangsOn_97 (fun f_9 H locs e_10 hM hS => ?_)
                      rw [show (nI jj : Int32).toNatClampNeg = jj from nI_clamp (by omega)] at e_10
                      rw [show (upd (bF (hoJ S2 i r8 jj)) jj (1 &&& 1)) = (bF (hoJ S2 i r8 (jj + 1))) from (bF_put (b := true) (fun _ => rfl)).trans (hoJ_t (b := true) (by rw [c_61]; rfl))] at e_10
                      have h_11 : f_9 (ad 20 0 0) = some (.inr (16, [.int (yT Y), .int (nI (aD S2)), .ref (ad 21 0 0), .ref (ad 23 0 0)])) := mq_n e_10 y20_246 (mq_neA y20_246 hq7)
                      have h_12 : f_9 (ad 21 0 0) = some (.inr (4, [.int ((yS Y).1), .ref (lsD G (yS Y).2 (ad 22 0 0)), .int (nI (aN S2))])) := mq_n e_10 y21_247 (mq_neA y21_247 hq7)
                      have h_13 : f_9 q2 = some (.inl (G.2 2, 10, .inl (bF (hoJ S2 i r8 (jj + 1))))) := mq_s e_10
                      refine lv_iinc (v := nI (jj + 1)) (lv' := [(6, .int (nI (jj + 1))), (0, .ref (ad 20 0 0)), (1, .int (nI a)), (2, .int (nI b)), (3, .ref q2), (4, .int (nI t)), (5, .int (nI i))]) hx hb dX11_hangsOn_98 hl (k := 6) rfl (nI_add _ _) (by decide) rfl (fun ls hl => ?_)
                      refine lv_goto (tgt := 42) hx hb dX11_hangsOn_101 (by decide) ?_
                      exact ih42 (jj + 1) (by omega) (by omega) _ h_13 (fun y e he => mq_n e_10 (hk7 y e he) (mq_neN he hq2)) _ _ hM hS _ (lv_sub hl [1, 2, 3, 4, 5, 6, 0] rfl)
                    · replace c_61 : zb ((hoJ S2 i r8 jj).testBit jj) = 0 := c_61
                      rw [zb_0] at c_61
                      refine lv_aload_n hx hb dX11_hangsOn_64 rfl (lv_at hl 3 rfl) ?_
                      refine lv_iload hx hb dX11_hangsOn_65 (lv_at hl 5 rfl) ?_
                      refine mq_zald hx hb hK hM hq7 (vp_in_nI (by omega) (by omega)) dX11_hangsOn_67 ?_
                      rw [show (nI i : Int32).toNatClampNeg = i from nI_clamp (by omega)]
                      rw [show (bF (hoJ S2 i r8 jj)) i = zb ((hoJ S2 i r8 jj).testBit i) from rfl]
                      refine lv_if_eq (tgt := 96) hx hb dX11_hangsOn_68 (by decide) (fun c_68 => ?_) (fun c_68 => ?_)
                      · replace c_68 : zb ((hoJ S2 i r8 jj).testBit i) = 0 := c_68
                        rw [zb_0] at c_68
                        refine lv_iconst (v := 0) hx hb dX11_hangsOn_96 (by decide) ?_
                        refine mq_zast hx hb hK hM hS hq7 (vp_in_nI (by omega) (by omega)) dX11_hangsOn_97 (fun f_15 H locs e_16 hM hS => ?_)
                        rw [show (nI jj : Int32).toNatClampNeg = jj from nI_clamp (by omega)] at e_16
                        rw [show (upd (bF (hoJ S2 i r8 jj)) jj (0 &&& 1)) = (bF (hoJ S2 i r8 (jj + 1))) from (bF_put (b := false) (fun q => by rw [c_61] at q; cases q)).trans (hoJ_t (b := false) (by rw [c_61, c_68]; rfl))] at e_16
                        have h_17 : f_15 (ad 20 0 0) = some (.inr (16, [.int (yT Y), .int (nI (aD S2)), .ref (ad 21 0 0), .ref (ad 23 0 0)])) := mq_n e_16 y20_246 (mq_neA y20_246 hq7)
                        have h_18 : f_15 (ad 21 0 0) = some (.inr (4, [.int ((yS Y).1), .ref (lsD G (yS Y).2 (ad 22 0 0)), .int (nI (aN S2))])) := mq_n e_16 y21_247 (mq_neA y21_247 hq7)
                        have h_19 : f_15 q2 = some (.inl (G.2 2, 10, .inl (bF (hoJ S2 i r8 (jj + 1))))) := mq_s e_16
                        refine lv_iinc (v := nI (jj + 1)) (lv' := [(6, .int (nI (jj + 1))), (0, .ref (ad 20 0 0)), (1, .int (nI a)), (2, .int (nI b)), (3, .ref q2), (4, .int (nI t)), (5, .int (nI i))]) hx hb dX11_hangsOn_98 hl (k := 6) rfl (nI_add _ _) (by decide) rfl (fun ls hl => ?_)
                        refine lv_goto (tgt := 42) hx hb dX11_hangsOn_101 (by decide) ?_
                        exact ih42 (jj + 1) (by omega) (by omega) _ h_19 (fun y e he => mq_n e_16 (hk7 y e he) (mq_neN he hq2)) _ _ hM hS _ (lv_sub hl [1, 2, 3, 4, 5, 6, 0] rfl)
                      · replace c_68 : ¬ zb ((hoJ S2 i r8 jj).testBit i) = 0 := c_68
                        rw [zb_n0] at c_68
                        have hcs : (yS Y).2 ≠ 0 := by omega
                        have y121_238 := hR7.1 _ _ _ _ (t121 hcs)
                        have y22_239 := hR7.1 _ _ _ _ (t22 hcs)
                        have y25_240 := hR7.1 _ _ _ _ (t25 (j := i) (by omega))
                        have y26_241 := hR7.1 _ _ _ _ (t26 (j := i) (by omega))
                        refine lv_aload_n hx hb dX11_hangsOn_71 rfl (lv_at hl 0 rfl) ?_
                        refine mq_get (ci := 16) (v := .ref (ad 21 0 0)) (C := RX11) (T := TX11) (N := 4) hx hb hts nX11 hown hK hM y20_246 rfl 2 (by decide) w1 (fun _ h9 => h9) rfl dX11_hangsOn_72 ?_
                        refine lv_iload hx hb dX11_hangsOn_75 (lv_at hl 5 rfl) ?_
                        refine mq_callq (va_runV (As := [.int (nI i)]) (rest := [.int (nI jj), .ref q2]) ⟨hx, hb, hml, hown, hts⟩ (c_Jx4a65c_get_915e3 l G A f7 (ad 21 0 0) (yS Y).1 (ad 22 0 0) (yS Y).2 (aN S2) i (fun i => ad 25 i 0)) (cwV 1 hts gX11_hangsOn_Jx4a65c_get_915e3 rfl rfl rfl (by decide +kernel) ⟨Nat.le_of_ble_eq_true rfl, Nat.le_of_ble_eq_true rfl⟩) (mq_preV hK hZ hS hA hM (q := (RJx4a65c, TJx4a65c, 3)) y121_238 rfl (⟨y121_238, y22_239, by omega, hns, by omega⟩) _) rfl rfl hl.1 rfl (lv_room (Nat.le_of_ble_eq_true rfl)) dX11_hangsOn_77 ⟨Nat.le_of_ble_eq_true rfl, Nat.le_of_ble_eq_true rfl⟩) hS (fun r77 g77 H locs p77 hM hS => ?_)
                        refine W.widen (k := 1) (n := 10) (Nat.le_of_ble_eq_true rfl) (Nat.le_of_ble_eq_true rfl) ?_
                        obtain ⟨rfl, rfl⟩ := p77
                        refine mq_castG hx hb hown w2 (mq_recv hK hM y25_240 rfl) dX11_hangsOn_80 ?_
                        refine mq_get (ci := 15) (v := .ref (ad 26 i 0)) (C := RX10) (T := TX10) (N := 4) hx hb hts nX10 hown hK hM y25_240 rfl 3 (by decide) w3 (fun _ h9 => h9) rfl dX11_hangsOn_83 ?_
                        refine lv_iload hx hb dX11_hangsOn_86 (lv_at hl 6 rfl) ?_
                        refine mq_zald hx hb hK hM y26_241 (vp_in_nI (by omega) (by omega)) dX11_hangsOn_88 ?_
                        rw [show (nI jj : Int32).toNatClampNeg = jj from nI_clamp (by omega)]
                        refine lv_if_eq (tgt := 96) hx hb dX11_hangsOn_89 (by decide) (fun c_89 => ?_) (fun c_89 => ?_)
                        · replace c_89 : zb ((aS S2 i).2.2.2.testBit jj) = 0 := c_89
                          rw [zb_0] at c_89
                          refine lv_iconst (v := 0) hx hb dX11_hangsOn_96 (by decide) ?_
                          refine mq_zast hx hb hK hM hS hq7 (vp_in_nI (by omega) (by omega)) dX11_hangsOn_97 (fun f_21 H locs e_22 hM hS => ?_)
                          rw [show (nI jj : Int32).toNatClampNeg = jj from nI_clamp (by omega)] at e_22
                          rw [show (upd (bF (hoJ S2 i r8 jj)) jj (0 &&& 1)) = (bF (hoJ S2 i r8 (jj + 1))) from (bF_put (b := false) (fun q => by rw [c_61] at q; cases q)).trans (hoJ_t (b := false) (by rw [c_61, c_68, c_89]; rfl))] at e_22
                          have h_23 : f_21 (ad 20 0 0) = some (.inr (16, [.int (yT Y), .int (nI (aD S2)), .ref (ad 21 0 0), .ref (ad 23 0 0)])) := mq_n e_22 y20_246 (mq_neA y20_246 hq7)
                          have h_24 : f_21 (ad 21 0 0) = some (.inr (4, [.int ((yS Y).1), .ref (ad 22 0 0), .int (nI (aN S2))])) := mq_n e_22 y121_238 (mq_neA y121_238 hq7)
                          have h_25 : f_21 q2 = some (.inl (G.2 2, 10, .inl (bF (hoJ S2 i r8 (jj + 1))))) := mq_s e_22
                          refine lv_iinc (v := nI (jj + 1)) (lv' := [(6, .int (nI (jj + 1))), (0, .ref (ad 20 0 0)), (1, .int (nI a)), (2, .int (nI b)), (3, .ref q2), (4, .int (nI t)), (5, .int (nI i))]) hx hb dX11_hangsOn_98 hl (k := 6) rfl (nI_add _ _) (by decide) rfl (fun ls hl => ?_)
                          refine lv_goto (tgt := 42) hx hb dX11_hangsOn_101 (by decide) ?_
                          exact ih42 (jj + 1) (by omega) (by omega) _ h_25 (fun y e he => mq_n e_22 (hk7 y e he) (mq_neN he hq2)) _ _ hM hS _ (lv_sub hl [1, 2, 3, 4, 5, 6, 0] rfl)
                        · replace c_89 : ¬ zb ((aS S2 i).2.2.2.testBit jj) = 0 := c_89
                          rw [zb_n0] at c_89
                          refine lv_iconst (v := 1) hx hb dX11_hangsOn_92 (by decide) ?_
                          refine lv_goto (tgt := 97) hx hb dX11_hangsOn_93 (by decide) ?_
                          refine mq_zast hx hb hK hM hS hq7 (vp_in_nI (by omega) (by omega)) dX11_hangsOn_97 (fun f_27 H locs e_28 hM hS => ?_)
                          rw [show (nI jj : Int32).toNatClampNeg = jj from nI_clamp (by omega)] at e_28
                          rw [show (upd (bF (hoJ S2 i r8 jj)) jj (1 &&& 1)) = (bF (hoJ S2 i r8 (jj + 1))) from (bF_put (b := true) (fun _ => rfl)).trans (hoJ_t (b := true) (by rw [c_61, c_68, c_89]; rfl))] at e_28
                          have h_29 : f_27 (ad 20 0 0) = some (.inr (16, [.int (yT Y), .int (nI (aD S2)), .ref (ad 21 0 0), .ref (ad 23 0 0)])) := mq_n e_28 y20_246 (mq_neA y20_246 hq7)
                          have h_30 : f_27 (ad 21 0 0) = some (.inr (4, [.int ((yS Y).1), .ref (ad 22 0 0), .int (nI (aN S2))])) := mq_n e_28 y121_238 (mq_neA y121_238 hq7)
                          have h_31 : f_27 q2 = some (.inl (G.2 2, 10, .inl (bF (hoJ S2 i r8 (jj + 1))))) := mq_s e_28
                          refine lv_iinc (v := nI (jj + 1)) (lv' := [(6, .int (nI (jj + 1))), (0, .ref (ad 20 0 0)), (1, .int (nI a)), (2, .int (nI b)), (3, .ref q2), (4, .int (nI t)), (5, .int (nI i))]) hx hb dX11_hangsOn_98 hl (k := 6) rfl (nI_add _ _) (by decide) rfl (fun ls hl => ?_)
                          refine lv_goto (tgt := 42) hx hb dX11_hangsOn_101 (by decide) ?_
                          exact ih42 (jj + 1) (by omega) (by omega) _ h_31 (fun y e he => mq_n e_28 (hk7 y e he) (mq_neN he hq2)) _ _ hM hS _ (lv_sub hl [1, 2, 3, 4, 5, 6, 0] rfl)
              exact K42 _ 0 (Nat.lt_succ_self _) (Nat.zero_le _) _ hq8 (hk8) _ _ hM hS _ (lv_sub hl [1, 2, 3, 4, 5, 6, 0] rfl)
        exact K27 _ 0 r9 (Nat.lt_succ_self _) (Nat.zero_le _) (rfl) _ hq9 (hk9) _ _ hM hS _ (lv_sub hl [1, 2, 3, 4, 5, 0] rfl)
  exact K12 _ 0 (2 ^ a) (Nat.lt_succ_self _) (Nat.zero_le _) (rfl) _ h_6 (fun y e he => mq_n e_5 (mq_n e_2 he (mq_neN he hq2)) (mq_neN he hq2)) _ _ hM hS _ (lv_sub hl [2, 3, 4, 1, 0] rfl)

set_option maxHeartbeats 2000000 in
theorem cT_bo {G : mq_G} {ad : AD} {S : AT} {X : CX} {S2 : AT} {Y : MX} {O : OX} {j0 : Nat} (m : Nat) (hj : j0 < aN S2) : cU (cT G ad S X S2 Y O) 26 j0 0 (cBo G m) = cT G ad S X (sSk S2 j0 ((aS S2 j0).1, (aS S2 j0).2.1, (aS S2 j0).2.2.1, m)) Y O := by
  funext a j k
  exact (match a with
    | 0 => by first | rfl | (simp [aN, aL, aD, aS, aM, aE, sTop, sSk, sMa, sLe, xW, xLn, xOl, xB, xSo, xR, xK, sW, sRi, sXp, lEx, lWs, lMd, cU, cT, adU, fU, fU2]; done)
    | 1 => by first | rfl | (simp [aN, aL, aD, aS, aM, aE, sTop, sSk, sMa, sLe, xW, xLn, xOl, xB, xSo, xR, xK, sW, sRi, sXp, lEx, lWs, lMd, cU, cT, adU, fU, fU2]; done)
    | 2 => by first | rfl | (simp [aN, aL, aD, aS, aM, aE, sTop, sSk, sMa, sLe, xW, xLn, xOl, xB, xSo, xR, xK, sW, sRi, sXp, lEx, lWs, lMd, cU, cT, adU, fU, fU2]; done)
    | 3 => by first | rfl | (simp [aN, aL, aD, aS, aM, aE, sTop, sSk, sMa, sLe, xW, xLn, xOl, xB, xSo, xR, xK, sW, sRi, sXp, lEx, lWs, lMd, cU, cT, adU, fU, fU2]; done)
    | 4 => by first | rfl | (simp [aN, aL, aD, aS, aM, aE, sTop, sSk, sMa, sLe, xW, xLn, xOl, xB, xSo, xR, xK, sW, sRi, sXp, lEx, lWs, lMd, cU, cT, adU, fU, fU2]; done)
    | 5 => by first | rfl | (simp [aN, aL, aD, aS, aM, aE, sTop, sSk, sMa, sLe, xW, xLn, xOl, xB, xSo, xR, xK, sW, sRi, sXp, lEx, lWs, lMd, cU, cT, adU, fU, fU2]; done)
    | 6 => by first | rfl | (simp [aN, aL, aD, aS, aM, aE, sTop, sSk, sMa, sLe, xW, xLn, xOl, xB, xSo, xR, xK, sW, sRi, sXp, lEx, lWs, lMd, cU, cT, adU, fU, fU2]; done)
    | 7 => by first | rfl | (simp [aN, aL, aD, aS, aM, aE, sTop, sSk, sMa, sLe, xW, xLn, xOl, xB, xSo, xR, xK, sW, sRi, sXp, lEx, lWs, lMd, cU, cT, adU, fU, fU2]; done)
    | 8 => by first | rfl | (simp [aN, aL, aD, aS, aM, aE, sTop, sSk, sMa, sLe, xW, xLn, xOl, xB, xSo, xR, xK, sW, sRi, sXp, lEx, lWs, lMd, cU, cT, adU, fU, fU2]; done)
    | 9 => by first | rfl | (simp [aN, aL, aD, aS, aM, aE, sTop, sSk, sMa, sLe, xW, xLn, xOl, xB, xSo, xR, xK, sW, sRi, sXp, lEx, lWs, lMd, cU, cT, adU, fU, fU2]; done)
    | 10 => by first | rfl | (simp [aN, aL, aD, aS, aM, aE, sTop, sSk, sMa, sLe, xW, xLn, xOl, xB, xSo, xR, xK, sW, sRi, sXp, lEx, lWs, lMd, cU, cT, adU, fU, fU2]; done)
    | 11 => by first | rfl | (simp [aN, aL, aD, aS, aM, aE, sTop, sSk, sMa, sLe, xW, xLn, xOl, xB, xSo, xR, xK, sW, sRi, sXp, lEx, lWs, lMd, cU, cT, adU, fU, fU2]; done)
    | 12 => by first | rfl | (simp [aN, aL, aD, aS, aM, aE, sTop, sSk, sMa, sLe, xW, xLn, xOl, xB, xSo, xR, xK, sW, sRi, sXp, lEx, lWs, lMd, cU, cT, adU, fU, fU2]; done)
    | 13 => by first | rfl | (simp [aN, aL, aD, aS, aM, aE, sTop, sSk, sMa, sLe, xW, xLn, xOl, xB, xSo, xR, xK, sW, sRi, sXp, lEx, lWs, lMd, cU, cT, adU, fU, fU2]; done)
    | 14 => by first | rfl | (simp [aN, aL, aD, aS, aM, aE, sTop, sSk, sMa, sLe, xW, xLn, xOl, xB, xSo, xR, xK, sW, sRi, sXp, lEx, lWs, lMd, cU, cT, adU, fU, fU2]; done)
    | 15 => by first | rfl | (simp [aN, aL, aD, aS, aM, aE, sTop, sSk, sMa, sLe, xW, xLn, xOl, xB, xSo, xR, xK, sW, sRi, sXp, lEx, lWs, lMd, cU, cT, adU, fU, fU2]; done)
    | 16 => by first | rfl | (simp [aN, aL, aD, aS, aM, aE, sTop, sSk, sMa, sLe, xW, xLn, xOl, xB, xSo, xR, xK, sW, sRi, sXp, lEx, lWs, lMd, cU, cT, adU, fU, fU2]; done)
    | 17 => by first | rfl | (simp [aN, aL, aD, aS, aM, aE, sTop, sSk, sMa, sLe, xW, xLn, xOl, xB, xSo, xR, xK, sW, sRi, sXp, lEx, lWs, lMd, cU, cT, adU, fU, fU2]; done)
    | 18 => by first | rfl | (simp [aN, aL, aD, aS, aM, aE, sTop, sSk, sMa, sLe, xW, xLn, xOl, xB, xSo, xR, xK, sW, sRi, sXp, lEx, lWs, lMd, cU, cT, adU, fU, fU2]; done)
    | 19 => by first | rfl | (simp [aN, aL, aD, aS, aM, aE, sTop, sSk, sMa, sLe, xW, xLn, xOl, xB, xSo, xR, xK, sW, sRi, sXp, lEx, lWs, lMd, cU, cT, adU, fU, fU2]; done)
    | 20 => by first | rfl | (simp [aN, aL, aD, aS, aM, aE, sTop, sSk, sMa, sLe, xW, xLn, xOl, xB, xSo, xR, xK, sW, sRi, sXp, lEx, lWs, lMd, cU, cT, adU, fU, fU2]; done)
    | 21 => by first | rfl | (simp [aN, aL, aD, aS, aM, aE, sTop, sSk, sMa, sLe, xW, xLn, xOl, xB, xSo, xR, xK, sW, sRi, sXp, lEx, lWs, lMd, cU, cT, adU, fU, fU2]; done)
    | 22 => by first | rfl | (simp [aN, aL, aD, aS, aM, aE, sTop, sSk, sMa, sLe, xW, xLn, xOl, xB, xSo, xR, xK, sW, sRi, sXp, lEx, lWs, lMd, cU, cT, adU, fU, fU2]; done)
    | 23 => by first | rfl | (simp [aN, aL, aD, aS, aM, aE, sTop, sSk, sMa, sLe, xW, xLn, xOl, xB, xSo, xR, xK, sW, sRi, sXp, lEx, lWs, lMd, cU, cT, adU, fU, fU2]; done)
    | 24 => by first | rfl | (simp [aN, aL, aD, aS, aM, aE, sTop, sSk, sMa, sLe, xW, xLn, xOl, xB, xSo, xR, xK, sW, sRi, sXp, lEx, lWs, lMd, cU, cT, adU, fU, fU2]; done)
    | 25 => by
        by_cases h : j = j0
        · subst h; by_cases h2 : k = 0 <;> simp [aN, aL, aD, aS, aM, aE, sTop, sSk, sMa, sLe, xW, xLn, xOl, xB, xSo, xR, xK, sW, sRi, sXp, lEx, lWs, lMd, cU, cT, adU, fU, fU2, oMap, h2, hj]
        · simp [aN, aL, aD, aS, aM, aE, sTop, sSk, sMa, sLe, xW, xLn, xOl, xB, xSo, xR, xK, sW, sRi, sXp, lEx, lWs, lMd, cU, cT, adU, fU, fU2, h]
    | 26 => by
        by_cases h : j = j0
        · subst h; by_cases h2 : k = 0 <;> simp [aN, aL, aD, aS, aM, aE, sTop, sSk, sMa, sLe, xW, xLn, xOl, xB, xSo, xR, xK, sW, sRi, sXp, lEx, lWs, lMd, cU, cT, adU, fU, fU2, oMap, h2, hj]
        · simp [aN, aL, aD, aS, aM, aE, sTop, sSk, sMa, sLe, xW, xLn, xOl, xB, xSo, xR, xK, sW, sRi, sXp, lEx, lWs, lMd, cU, cT, adU, fU, fU2, h]
    | 27 => by first | rfl | (simp [aN, aL, aD, aS, aM, aE, sTop, sSk, sMa, sLe, xW, xLn, xOl, xB, xSo, xR, xK, sW, sRi, sXp, lEx, lWs, lMd, cU, cT, adU, fU, fU2]; done)
    | 28 => by first | rfl | (simp [aN, aL, aD, aS, aM, aE, sTop, sSk, sMa, sLe, xW, xLn, xOl, xB, xSo, xR, xK, sW, sRi, sXp, lEx, lWs, lMd, cU, cT, adU, fU, fU2]; done)
    | 29 => by first | rfl | (simp [aN, aL, aD, aS, aM, aE, sTop, sSk, sMa, sLe, xW, xLn, xOl, xB, xSo, xR, xK, sW, sRi, sXp, lEx, lWs, lMd, cU, cT, adU, fU, fU2]; done)
    | 30 => by first | rfl | (simp [aN, aL, aD, aS, aM, aE, sTop, sSk, sMa, sLe, xW, xLn, xOl, xB, xSo, xR, xK, sW, sRi, sXp, lEx, lWs, lMd, cU, cT, adU, fU, fU2]; done)
    | 31 => by first | rfl | (simp [aN, aL, aD, aS, aM, aE, sTop, sSk, sMa, sLe, xW, xLn, xOl, xB, xSo, xR, xK, sW, sRi, sXp, lEx, lWs, lMd, cU, cT, adU, fU, fU2]; done)
    | 32 => by first | rfl | (simp [aN, aL, aD, aS, aM, aE, sTop, sSk, sMa, sLe, xW, xLn, xOl, xB, xSo, xR, xK, sW, sRi, sXp, lEx, lWs, lMd, cU, cT, adU, fU, fU2]; done)
    | 33 => by first | rfl | (simp [aN, aL, aD, aS, aM, aE, sTop, sSk, sMa, sLe, xW, xLn, xOl, xB, xSo, xR, xK, sW, sRi, sXp, lEx, lWs, lMd, cU, cT, adU, fU, fU2]; done)
    | 34 => by first | rfl | (simp [aN, aL, aD, aS, aM, aE, sTop, sSk, sMa, sLe, xW, xLn, xOl, xB, xSo, xR, xK, sW, sRi, sXp, lEx, lWs, lMd, cU, cT, adU, fU, fU2]; done)
    | 35 => by first | rfl | (simp [aN, aL, aD, aS, aM, aE, sTop, sSk, sMa, sLe, xW, xLn, xOl, xB, xSo, xR, xK, sW, sRi, sXp, lEx, lWs, lMd, cU, cT, adU, fU, fU2]; done)
    | 36 => by first | rfl | (simp [aN, aL, aD, aS, aM, aE, sTop, sSk, sMa, sLe, xW, xLn, xOl, xB, xSo, xR, xK, sW, sRi, sXp, lEx, lWs, lMd, cU, cT, adU, fU, fU2]; done)
    | 37 => by first | rfl | (simp [aN, aL, aD, aS, aM, aE, sTop, sSk, sMa, sLe, xW, xLn, xOl, xB, xSo, xR, xK, sW, sRi, sXp, lEx, lWs, lMd, cU, cT, adU, fU, fU2]; done)
    | 38 => by first | rfl | (simp [aN, aL, aD, aS, aM, aE, sTop, sSk, sMa, sLe, xW, xLn, xOl, xB, xSo, xR, xK, sW, sRi, sXp, lEx, lWs, lMd, cU, cT, adU, fU, fU2]; done)
    | 39 => by first | rfl | (simp [aN, aL, aD, aS, aM, aE, sTop, sSk, sMa, sLe, xW, xLn, xOl, xB, xSo, xR, xK, sW, sRi, sXp, lEx, lWs, lMd, cU, cT, adU, fU, fU2]; done)
    | n + 40 => by first | rfl | simp [cU, cT])

theorem fl_y1 {f g : mq_F} {x : Nat} {d : Int32} {a b : Nat} {e r : Int32} {bo : Bool} (h : f x = some (.inr (16, [.int 0, .int d, .ref a, .ref b]))) (hp : g = mq_up f x (.inr (16, [.int (fT bo 0 e), .int d, .ref a, .ref b])) ∧ r = zb (decide (fT bo 0 e ≠ 0))) (he : e ≠ 0) (hr : r = 0) : bo = false ∧ f = g := by
  cases bo with
  | false => exact ⟨rfl, fl_0 h hp.1⟩
  | true =>
    rw [hp.2, zb_0] at hr
    exact absurd (show fT true 0 e = 0 from by simpa using hr) (by rw [show fT true 0 e = e from if_pos ⟨rfl, rfl⟩]; exact he)
theorem fl_n1 {f g : mq_F} {x : Nat} {d : Int32} {a b : Nat} {e r : Int32} {bo : Bool} (hp : g = mq_up f x (.inr (16, [.int (fT bo 0 e), .int d, .ref a, .ref b])) ∧ r = zb (decide (fT bo 0 e ≠ 0))) (hr : ¬ r = 0) : bo = true ∧ g = mq_up f x (.inr (16, [.int e, .int d, .ref a, .ref b])) := by
  cases bo with
  | true => exact ⟨rfl, hp.1⟩
  | false => exact absurd hp.2 hr
theorem or_same {m j : Nat} (h : m.testBit j = true) : m ||| 2 ^ j = m := Nat.eq_of_testBit_eq fun i => by
  rw [tb_or]
  by_cases hij : j = i
  · subst hij; rw [h]; rfl
  · rw [decide_eq_false hij, Bool.or_false]
theorem WR_bo {G : mq_G} {f g : mq_F} {ad : AD} {S : AT} {X : CX} {S2 : AT} {Y : MX} {O : OX} {k m : Nat} (h : WR G f ad S X S2 Y O) (hk : k < aN S2) (hg : g = mq_up f (ad 26 k 0) (.inl (G.2 2, 10, .inl (fun t => zb (m.testBit t))))) : WR G g ad S X (sSk S2 k ((aS S2 k).1, (aS S2 k).2.1, (aS S2 k).2.2.1, m)) Y O := by
  have h1 := RR.put h (t26 hk) rfl hg
  rw [cT_bo m hk] at h1
  exact h1

set_option maxHeartbeats 4000000 in
set_option maxRecDepth 100000 in
theorem c_X11_addNeed (l : Launch) (G : mq_G) (A : Nat → Prop) (f : mq_F) (ad : AD) (S : AT) (X : CX) (S2 : AT) (Y : MX) (O : OX) (T : Nat) (ua ub : Int32) : Met l yX11_addNeed wsX11_addNeed ({ frames := 11, cells := 1, slots := 10, locals := 210 } : Room) (mq_Pc G A f (WR G f ad S X S2 Y O ∧ mOK S2 Y T) [.ref (ad 20 0 0), .int ua, .int ub]) (mq_Qi G A (fun r g => ∃ c9 S9, spNeed S2 ua ub = (c9, r, S9) ∧ WR G g ad S X S9 (yThr Y (nI c9)) O ∧ mCp S9 Y)) 1 10 A := by
  refine Met.ofW (cc := cX11_addNeed) (maxL := 4) (ret := (some .boolean)) (by decide) rfl ?_
  intro p e s m args below meth c s₁ B hml hv
  obtain ⟨rfl, ⟨hK, hZ, hM, hA⟩, hp⟩ := hv
  have hx := B.exec
  have hb := B.bytes
  have hr := B.returns
  have hts := atoms_spec (ws := wsX11_addNeed) B.pre
  have hown : s.vm.findClass RX11 = some m.cls := findClass_of_methodNamed B.named
  have hlocks := B.notSynchronized
  have hS : va_S A s.heap s.heap [] := va_S.rf
  have hl := lv_entry ([.ref (ad 20 0 0), .int ua, .int ub]) (n := 4) (Nat.le_of_ble_eq_true rfl)
  rw [lg_entry_eq]
  generalize (lg_sl ([.ref (ad 20 0 0), .int ua, .int ub]) ++ List.replicate (4 - (lg_sl ([.ref (ad 20 0 0), .int ua, .int ub])).length) Slot.unset).toArray = ls at hl ⊢
  have hl : lv_has ls 4 [(0, .ref (ad 20 0 0)), (1, .int ua), (2, .int ub)] := hl
  have w0 := hts (.fieldLink RX11 19 "TutorlightModel" "thrown" "I") (List.mem_of_getElem? (i := 1) rfl)
  have w1 := hts (.fieldLink RX11 10 "TutorlightModel" "skills" "Ljava/util/ArrayList;") (List.mem_of_getElem? (i := 2) rfl)
  have w2 := hts (.classLink RX11 52 "TutorlightModel$Skill") (List.mem_of_getElem? (i := 3) rfl)
  have w3 := hts (.fieldLink RX11 68 "TutorlightModel$Skill" "needs" "[Z") (List.mem_of_getElem? (i := 4) rfl)
  have nX11 : ∀ w ∈ wsX110, w ∈ wsX11_addNeed := fun _ h => List.mem_cons_of_mem _ (List.mem_append_left _ (List.mem_append_left _ (List.mem_append_left _ (List.mem_append_right _ h))))
  have nX10 : ∀ w ∈ wsX100, w ∈ wsX11_addNeed := fun _ h => List.mem_cons_of_mem _ (List.mem_append_left _ (List.mem_append_left _ (List.mem_append_right _ h)))
  obtain ⟨hR, hO⟩ := hp
  obtain ⟨⟨X9, ⟨hn, hl4, hd2, hT⟩, hsk, hma, hdc, hle, -⟩, ⟨hns, hnc⟩, ⟨hls, hlc⟩, hac, hmc⟩ := id hO
  have y20_257 := hR.1 _ _ _ _ (t20)
  refine lv_aload_n hx hb dX11_addNeed_0 rfl (lv_at hl 0 rfl) ?_
  refine lv_iconst (v := 0) hx hb dX11_addNeed_1 (by decide) ?_
  refine mq_put (ci := 16) (v := .int 0) (ty := .int) (C := RX11) (T := TX11) (N := 4) (fs' := [.int 0, .int (nI (aD S2)), .ref (ad 21 0 0), .ref (ad 23 0 0)]) hx hb hts nX11 tyX11 tyX11_ok nmX11 hown hK hM hS y20_257 rfl 0 (by decide) w0 (fun _ h9 => h9) rfl (by decide +kernel) rfl rfl (Nat.le_of_ble_eq_true rfl) dX11_addNeed_2 rfl (fun f_1 H locs e_2 hM hS => ?_)
  have h_3 : f_1 (ad 20 0 0) = some (.inr (16, [.int 0, .int (nI (aD S2)), .ref (ad 21 0 0), .ref (ad 23 0 0)])) := mq_s e_2
  have hR1 := WR_yt hR e_2
  have y21_250 := hR1.1 _ _ _ _ (t21)
  refine lv_aload_n hx hb dX11_addNeed_5 rfl (lv_at hl 0 rfl) ?_
  refine lv_aload_n hx hb dX11_addNeed_6 rfl (lv_at hl 0 rfl) ?_
  refine lv_iload_n hx hb dX11_addNeed_7 rfl (lv_at hl 1 rfl) ?_
  refine mq_calli (va_runV (As := [.int ua]) (rest := [.ref (ad 20 0 0)]) ⟨hx, hb, hml, hown, hts⟩ (c_X11_noSkill l G A f_1 (ad 20 0 0) (ad 21 0 0) ua 0 (nI (aD S2)) (ad 23 0 0) (lsD G (yS Y).2 (ad 22 0 0)) (aN S2) (yS Y).1) (cwV 1 hts gX11_addNeed_X11_noSkill rfl rfl rfl (by decide +kernel) ⟨Nat.le_of_ble_eq_true rfl, Nat.le_of_ble_eq_true rfl⟩) (mq_preV hK hZ hS hA hM (q := (RX11, TX11, 4)) h_3 rfl (⟨h_3, y21_250, by omega⟩) _) rfl rfl hl.1 rfl (lv_room (Nat.le_of_ble_eq_true rfl)) dX11_addNeed_8 ⟨Nat.le_of_ble_eq_true rfl, Nat.le_of_ble_eq_true rfl⟩) hS (fun r8 g8 H locs p8 hM hS => ?_)
  refine W.widen (k := 0) (n := 0) (Nat.le_of_ble_eq_true rfl) (Nat.le_of_ble_eq_true rfl) ?_
  obtain ⟨rfl, rfl⟩ := p8
  refine lv_if_ne (tgt := 22) hx hb dX11_addNeed_11 (by decide) (fun c_11 => ?_) (fun c_11 => ?_)
  · replace c_11 : ¬ zb (!vI ua (aN S2)) = 0 := c_11
    rw [zb_n0] at c_11
    have z_11 : vI ua (aN S2) = false := by simpa using c_11
    refine lv_iconst (v := 1) hx hb dX11_addNeed_22 (by decide) ?_
    refine lv_goto (tgt := 27) hx hb dX11_addNeed_23 (by decide) ?_
    refine lv_iconst (v := 1) hx hb dX11_addNeed_27 (by decide) ?_
    refine mq_calli (va_runV (As := [.int 1, .int 1]) (rest := []) ⟨hx, hb, hml, hown, hts⟩ (c_X11_fails l G A f_1 (ad 20 0 0) true 1 0 (nI (aD S2)) (ad 21 0 0) (ad 23 0 0)) (cwV 2 hts gX11_addNeed_X11_fails rfl rfl rfl (by decide +kernel) ⟨Nat.le_of_ble_eq_true rfl, Nat.le_of_ble_eq_true rfl⟩) (mq_preV hK hZ hS hA hM (q := (RX11, TX11, 4)) h_3 rfl (h_3) _) rfl rfl hl.1 rfl (lv_room (Nat.le_of_ble_eq_true rfl)) dX11_addNeed_28 ⟨Nat.le_of_ble_eq_true rfl, Nat.le_of_ble_eq_true rfl⟩) hS (fun r28 g28 H locs p28 hM hS => ?_)
    refine W.widen (k := 0) (n := 0) (Nat.le_of_ble_eq_true rfl) (Nat.le_of_ble_eq_true rfl) ?_
    obtain ⟨hg, hr9⟩ := p28
    rw [hr9, show zb (decide (fT true 0 1 ≠ 0)) = 1 from by decide]
    refine lv_if_ne (tgt := 48) hx hb dX11_addNeed_31 (by decide) (fun c_31 => ?_) (fun c_31 => absurd c_31 (by decide))
    refine lv_iconst (v := 0) hx hb dX11_addNeed_48 (by decide) ?_
    refine W.widen (k := 1) (n := 10) (Nat.le_of_ble_eq_true rfl) (Nat.le_of_ble_eq_true rfl) ?_
    exact mq_zret (v := 0) hx hb hr (rfl) hlocks hM hS (⟨1, S2, spNeed_n (fun q => absurd (vI_iff.mpr q.1) (by rw [z_11]; decide)), (by have q9 := WR_yt hR1 hg; exact q9), hO.2⟩) dX11_addNeed_49
  · replace c_11 : zb (!vI ua (aN S2)) = 0 := c_11
    rw [zb_0] at c_11
    have z_11 : vI ua (aN S2) = true := by simpa using c_11
    obtain ⟨k, hk, rfl⟩ := vI_ex1 z_11
    refine lv_aload_n hx hb dX11_addNeed_14 rfl (lv_at hl 0 rfl) ?_
    refine lv_iload_n hx hb dX11_addNeed_15 rfl (lv_at hl 2 rfl) ?_
    refine mq_calli (va_runV (As := [.int ub]) (rest := [.ref (ad 20 0 0)]) ⟨hx, hb, hml, hown, hts⟩ (c_X11_noSkill l G A f_1 (ad 20 0 0) (ad 21 0 0) ub 0 (nI (aD S2)) (ad 23 0 0) (lsD G (yS Y).2 (ad 22 0 0)) (aN S2) (yS Y).1) (cwV 1 hts gX11_addNeed_X11_noSkill rfl rfl rfl (by decide +kernel) ⟨Nat.le_of_ble_eq_true rfl, Nat.le_of_ble_eq_true rfl⟩) (mq_preV hK hZ hS hA hM (q := (RX11, TX11, 4)) h_3 rfl (⟨h_3, y21_250, by omega⟩) _) rfl rfl hl.1 rfl (lv_room (Nat.le_of_ble_eq_true rfl)) dX11_addNeed_16 ⟨Nat.le_of_ble_eq_true rfl, Nat.le_of_ble_eq_true rfl⟩) hS (fun r16 g16 H locs p16 hM hS => ?_)
    refine W.widen (k := 0) (n := 0) (Nat.le_of_ble_eq_true rfl) (Nat.le_of_ble_eq_true rfl) ?_
    obtain ⟨rfl, rfl⟩ := p16
    refine lv_if_eq (tgt := 26) hx hb dX11_addNeed_19 (by decide) (fun c_19 => ?_) (fun c_19 => ?_)
    · replace c_19 : zb (!vI ub (aN S2)) = 0 := c_19
      rw [zb_0] at c_19
      have z_19 : vI ub (aN S2) = true := by simpa using c_19
      obtain ⟨k2, hk2, rfl⟩ := vI_ex1 z_19
      refine lv_iconst (v := 0) hx hb dX11_addNeed_26 (by decide) ?_
      refine lv_iconst (v := 1) hx hb dX11_addNeed_27 (by decide) ?_
      refine mq_calli (va_runV (As := [.int 0, .int 1]) (rest := []) ⟨hx, hb, hml, hown, hts⟩ (c_X11_fails l G A f_1 (ad 20 0 0) false 1 0 (nI (aD S2)) (ad 21 0 0) (ad 23 0 0)) (cwV 2 hts gX11_addNeed_X11_fails rfl rfl rfl (by decide +kernel) ⟨Nat.le_of_ble_eq_true rfl, Nat.le_of_ble_eq_true rfl⟩) (mq_preV hK hZ hS hA hM (q := (RX11, TX11, 4)) h_3 rfl (h_3) _) rfl rfl hl.1 rfl (lv_room (Nat.le_of_ble_eq_true rfl)) dX11_addNeed_28 ⟨Nat.le_of_ble_eq_true rfl, Nat.le_of_ble_eq_true rfl⟩) hS (fun r28 g28 H locs p28 hM hS => ?_)
      refine W.widen (k := 0) (n := 0) (Nat.le_of_ble_eq_true rfl) (Nat.le_of_ble_eq_true rfl) ?_
      obtain ⟨hg, hr9⟩ := p28
      obtain rfl := fl_0 h_3 hg
      rw [hr9, show zb (decide (fT false 0 1 ≠ 0)) = 0 from by decide]
      refine lv_if_ne (tgt := 48) hx hb dX11_addNeed_31 (by decide) (fun c_31 => absurd c_31 (by decide)) (fun c_31 => ?_)
      refine lv_aload_n hx hb dX11_addNeed_34 rfl (lv_at hl 0 rfl) ?_
      refine lv_aload_n hx hb dX11_addNeed_35 rfl (lv_at hl 0 rfl) ?_
      refine lv_iload_n hx hb dX11_addNeed_36 rfl (lv_at hl 2 rfl) ?_
      refine lv_iload_n hx hb dX11_addNeed_37 rfl (lv_at hl 1 rfl) ?_
      refine mq_calli (va_runV (As := [.int (nI k2), .int (nI k)]) (rest := [.ref (ad 20 0 0)]) ⟨hx, hb, hml, hown, hts⟩ (c_X11_hangsOn l G A f_1 ad S X S2 (yThr Y 0) O T k2 k) (cwV 2 hts gX11_addNeed_X11_hangsOn rfl rfl rfl (by decide +kernel) ⟨Nat.le_of_ble_eq_true rfl, Nat.le_of_ble_eq_true rfl⟩) (mq_preV hK hZ hS hA hM (q := (RX11, TX11, 4)) h_3 rfl (⟨hR1, hO.thr 0, hk2, hk⟩) _) rfl rfl hl.1 rfl (lv_room (Nat.le_of_ble_eq_true rfl)) dX11_addNeed_38 ⟨Nat.le_of_ble_eq_true rfl, Nat.le_of_ble_eq_true rfl⟩) hS (fun r38 g38 H locs p38 hM hS => ?_)
      refine W.widen (k := 1) (n := 10) (Nat.le_of_ble_eq_true rfl) (Nat.le_of_ble_eq_true rfl) ?_
      obtain ⟨hk38, rfl⟩ := p38
      have hR9 := RR.mono hR1 hk38
      have y20_251 := hR9.1 _ _ _ _ (t20)
      have y21_252 := hR9.1 _ _ _ _ (t21)
      refine lv_iconst (v := 2) hx hb dX11_addNeed_41 (by decide) ?_
      refine mq_calli (va_runV (As := [.int (zb ((ctn S2 k2 (aN S2)).testBit k)), .int 2]) (rest := []) ⟨hx, hb, hml, hown, hts⟩ (c_X11_fails l G A g38 (ad 20 0 0) ((ctn S2 k2 (aN S2)).testBit k) 2 0 (nI (aD S2)) (ad 21 0 0) (ad 23 0 0)) (cwV 2 hts gX11_addNeed_X11_fails rfl rfl rfl (by decide +kernel) ⟨Nat.le_of_ble_eq_true rfl, Nat.le_of_ble_eq_true rfl⟩) (mq_preV hK hZ hS hA hM (q := (RX11, TX11, 4)) y20_251 rfl (y20_251) _) rfl rfl hl.1 rfl (lv_room (Nat.le_of_ble_eq_true rfl)) dX11_addNeed_42 ⟨Nat.le_of_ble_eq_true rfl, Nat.le_of_ble_eq_true rfl⟩) hS (fun r42 g42 H locs p42 hM hS => ?_)
      refine W.widen (k := 1) (n := 10) (Nat.le_of_ble_eq_true rfl) (Nat.le_of_ble_eq_true rfl) ?_
      refine lv_if_eq (tgt := 50) hx hb dX11_addNeed_45 (by decide) (fun c_45 => ?_) (fun c_45 => ?_)
      · obtain ⟨hv9, rfl⟩ := fl_y1 y20_251 p42 (by decide) c_45
        have hcs : (yS Y).2 ≠ 0 := by omega
        have y121_253 := hR9.1 _ _ _ _ (t121 hcs)
        have y22_254 := hR9.1 _ _ _ _ (t22 hcs)
        have y25_255 := hR9.1 _ _ _ _ (t25 (j := k) hk)
        have y26_256 := hR9.1 _ _ _ _ (t26 (j := k) hk)
        refine lv_aload_n hx hb dX11_addNeed_50 rfl (lv_at hl 0 rfl) ?_
        refine mq_get (ci := 16) (v := .ref (ad 21 0 0)) (C := RX11) (T := TX11) (N := 4) hx hb hts nX11 hown hK hM y20_251 rfl 2 (by decide) w1 (fun _ h9 => h9) rfl dX11_addNeed_51 ?_
        refine lv_iload_n hx hb dX11_addNeed_54 rfl (lv_at hl 1 rfl) ?_
        refine mq_callq (va_runV (As := [.int (nI k)]) (rest := []) ⟨hx, hb, hml, hown, hts⟩ (c_Jx4a65c_get_915e3 l G A g38 (ad 21 0 0) (yS Y).1 (ad 22 0 0) (yS Y).2 (aN S2) k (fun i => ad 25 i 0)) (cwV 1 hts gX11_addNeed_Jx4a65c_get_915e3 rfl rfl rfl (by decide +kernel) ⟨Nat.le_of_ble_eq_true rfl, Nat.le_of_ble_eq_true rfl⟩) (mq_preV hK hZ hS hA hM (q := (RJx4a65c, TJx4a65c, 3)) y121_253 rfl (⟨y121_253, y22_254, hk, hns, by omega⟩) _) rfl rfl hl.1 rfl (lv_room (Nat.le_of_ble_eq_true rfl)) dX11_addNeed_55 ⟨Nat.le_of_ble_eq_true rfl, Nat.le_of_ble_eq_true rfl⟩) hS (fun r55 g55 H locs p55 hM hS => ?_)
        refine W.widen (k := 1) (n := 10) (Nat.le_of_ble_eq_true rfl) (Nat.le_of_ble_eq_true rfl) ?_
        obtain ⟨rfl, rfl⟩ := p55
        refine mq_castG hx hb hown w2 (mq_recv hK hM y25_255 rfl) dX11_addNeed_58 ?_
        refine mq_get (ci := 15) (v := .ref (ad 26 k 0)) (C := RX10) (T := TX10) (N := 4) hx hb hts nX10 hown hK hM y25_255 rfl 3 (by decide) w3 (fun _ h9 => h9) rfl dX11_addNeed_61 ?_
        refine lv_iload_n hx hb dX11_addNeed_64 rfl (lv_at hl 2 rfl) ?_
        refine mq_zald hx hb hK hM y26_256 (vp_in_nI (by omega) (by omega)) dX11_addNeed_65 ?_
        rw [show (nI k2 : Int32).toNatClampNeg = k2 from nI_clamp (by omega)]
        refine lv_istore_n (lv' := [(3, .int (zb ((aS S2 k).2.2.2.testBit k2))), (0, .ref (ad 20 0 0)), (1, .int (nI k)), (2, .int (nI k2))]) hx hb dX11_addNeed_66 rfl hl (by decide) rfl (fun ls hl => ?_)
        refine lv_aload_n hx hb dX11_addNeed_67 rfl (lv_at hl 1 rfl) ?_
        refine mq_get (ci := 16) (v := .ref (ad 21 0 0)) (C := RX11) (T := TX11) (N := 4) hx hb hts nX11 hown hK hM y20_251 rfl 2 (by decide) w1 (fun _ h9 => h9) rfl dX11_addNeed_68 ?_
        refine lv_iload_n hx hb dX11_addNeed_71 rfl (lv_at hl 2 rfl) ?_
        refine mq_callq (va_runV (As := [.int (nI k)]) (rest := []) ⟨hx, hb, hml, hown, hts⟩ (c_Jx4a65c_get_915e3 l G A g38 (ad 21 0 0) (yS Y).1 (ad 22 0 0) (yS Y).2 (aN S2) k (fun i => ad 25 i 0)) (cwV 1 hts gX11_addNeed_Jx4a65c_get_915e3 rfl rfl rfl (by decide +kernel) ⟨Nat.le_of_ble_eq_true rfl, Nat.le_of_ble_eq_true rfl⟩) (mq_preV hK hZ hS hA hM (q := (RJx4a65c, TJx4a65c, 3)) y121_253 rfl (⟨y121_253, y22_254, hk, hns, by omega⟩) _) rfl rfl hl.1 rfl (lv_room (Nat.le_of_ble_eq_true rfl)) dX11_addNeed_72 ⟨Nat.le_of_ble_eq_true rfl, Nat.le_of_ble_eq_true rfl⟩) hS (fun r72 g72 H locs p72 hM hS => ?_)
        refine W.widen (k := 1) (n := 10) (Nat.le_of_ble_eq_true rfl) (Nat.le_of_ble_eq_true rfl) ?_
        obtain ⟨rfl, rfl⟩ := p72
        refine mq_castG hx hb hown w2 (mq_recv hK hM y25_255 rfl) dX11_addNeed_75 ?_
        refine mq_get (ci := 15) (v := .ref (ad 26 k 0)) (C := RX10) (T := TX10) (N := 4) hx hb hts nX10 hown hK hM y25_255 rfl 3 (by decide) w3 (fun _ h9 => h9) rfl dX11_addNeed_78 ?_
        refine lv_iload_n hx hb dX11_addNeed_81 rfl (lv_at hl 3 rfl) ?_
        refine lv_iconst (v := 1) hx hb dX11_addNeed_82 (by decide) ?_
        refine mq_zast hx hb hK hM hS y26_256 (vp_in_nI (by omega) (by omega)) dX11_addNeed_83 (fun f_4 H locs e_5 hM hS => ?_)
        rw [show (nI k2 : Int32).toNatClampNeg = k2 from nI_clamp (by omega)] at e_5
        rw [show (upd (fun t => zb ((aS S2 k).2.2.2.testBit t)) k2 (1 &&& 1)) = (fun t => zb (((aS S2 k).2.2.2 ||| 2 ^ k2).testBit t)) from bF_put (r := (aS S2 k).2.2.2) (j := k2) (b := true) (fun _ => rfl)] at e_5
        have h_6 : f_4 (ad 20 0 0) = some (.inr (16, [.int 0, .int (nI (aD S2)), .ref (ad 21 0 0), .ref (ad 23 0 0)])) := mq_n e_5 y20_251 (mq_neA y20_251 y26_256)
        have h_7 : f_4 (ad 21 0 0) = some (.inr (4, [.int ((yS Y).1), .ref (ad 22 0 0), .int (nI (aN S2))])) := mq_n e_5 y121_253 (mq_neA y121_253 y26_256)
        have h_8 : f_4 (ad 22 0 0) = some (.inl (G.2 8, (yS Y).2, .inr (.inr (.inr (.inr (rf_of (aN S2) (fun i => ad 25 i 0))))))) := mq_n e_5 y22_254 (mq_neCqi y22_254 y26_256)
        have h_9 : f_4 (ad 25 k 0) = some (.inr (15, [.int (nI ((aS S2 k).1)), .int (nI ((aS S2 k).2.1)), .int (nI ((aS S2 k).2.2.1)), .ref (ad 26 k 0)])) := mq_n e_5 y25_255 (mq_neA y25_255 y26_256)
        have h_10 : f_4 (ad 26 k 0) = some (.inl (G.2 2, 10, .inl (fun t => zb (((aS S2 k).2.2.2 ||| 2 ^ k2).testBit t)))) := mq_s e_5
        have hR8 := WR_bo hR9 hk e_5
        refine lv_iload_n hx hb dX11_addNeed_84 rfl (lv_at hl 0 rfl) ?_
        refine lv_if_ne (tgt := 92) hx hb dX11_addNeed_85 (by decide) (fun c_85 => ?_) (fun c_85 => ?_)
        · replace c_85 : ¬ zb ((aS S2 k).2.2.2.testBit k2) = 0 := c_85
          rw [zb_n0] at c_85
          refine lv_iconst (v := 0) hx hb dX11_addNeed_92 (by decide) ?_
          exact mq_zret (v := 0) hx hb hr (rfl) hlocks hM hS (⟨0, S2, (spNeed_y hk hk2 hn).trans ((if_neg (by rw [hv9]; decide)).trans (if_pos c_85)), (by rw [e_5, or_same c_85, mq_id (y26_256)]; exact hR9), hO.2⟩) dX11_addNeed_93
        · replace c_85 : zb ((aS S2 k).2.2.2.testBit k2) = 0 := c_85
          rw [zb_0] at c_85
          refine lv_iconst (v := 1) hx hb dX11_addNeed_88 (by decide) ?_
          refine lv_goto (tgt := 93) hx hb dX11_addNeed_89 (by decide) ?_
          exact mq_zret (v := 1) hx hb hr (rfl) hlocks hM hS (⟨0, sSk S2 k ((aS S2 k).1, (aS S2 k).2.1, (aS S2 k).2.2.1, (aS S2 k).2.2.2 ||| 2 ^ k2), (spNeed_y hk hk2 hn).trans ((if_neg (by rw [hv9]; decide)).trans (if_neg (by rw [c_85]; decide))), hR8, hO.2⟩) dX11_addNeed_93
      · obtain ⟨hv9, hg⟩ := fl_n1 p42 c_45
        refine lv_iconst (v := 0) hx hb dX11_addNeed_48 (by decide) ?_
        exact mq_zret (v := 0) hx hb hr (rfl) hlocks hM hS (⟨2, S2, (spNeed_y hk hk2 hn).trans (if_pos hv9), (by have q9 := WR_yt hR9 hg; exact q9), hO.2⟩) dX11_addNeed_49
    · replace c_19 : ¬ zb (!vI ub (aN S2)) = 0 := c_19
      rw [zb_n0] at c_19
      have z_19 : vI ub (aN S2) = false := by simpa using c_19
      refine lv_iconst (v := 1) hx hb dX11_addNeed_22 (by decide) ?_
      refine lv_goto (tgt := 27) hx hb dX11_addNeed_23 (by decide) ?_
      refine lv_iconst (v := 1) hx hb dX11_addNeed_27 (by decide) ?_
      refine mq_calli (va_runV (As := [.int 1, .int 1]) (rest := []) ⟨hx, hb, hml, hown, hts⟩ (c_X11_fails l G A f_1 (ad 20 0 0) true 1 0 (nI (aD S2)) (ad 21 0 0) (ad 23 0 0)) (cwV 2 hts gX11_addNeed_X11_fails rfl rfl rfl (by decide +kernel) ⟨Nat.le_of_ble_eq_true rfl, Nat.le_of_ble_eq_true rfl⟩) (mq_preV hK hZ hS hA hM (q := (RX11, TX11, 4)) h_3 rfl (h_3) _) rfl rfl hl.1 rfl (lv_room (Nat.le_of_ble_eq_true rfl)) dX11_addNeed_28 ⟨Nat.le_of_ble_eq_true rfl, Nat.le_of_ble_eq_true rfl⟩) hS (fun r28 g28 H locs p28 hM hS => ?_)
      refine W.widen (k := 0) (n := 0) (Nat.le_of_ble_eq_true rfl) (Nat.le_of_ble_eq_true rfl) ?_
      obtain ⟨hg, hr9⟩ := p28
      rw [hr9, show zb (decide (fT true 0 1 ≠ 0)) = 1 from by decide]
      refine lv_if_ne (tgt := 48) hx hb dX11_addNeed_31 (by decide) (fun c_31 => ?_) (fun c_31 => absurd c_31 (by decide))
      refine lv_iconst (v := 0) hx hb dX11_addNeed_48 (by decide) ?_
      refine W.widen (k := 1) (n := 10) (Nat.le_of_ble_eq_true rfl) (Nat.le_of_ble_eq_true rfl) ?_
      exact mq_zret (v := 0) hx hb hr (rfl) hlocks hM hS (⟨1, S2, spNeed_n (fun q => absurd (vI_iff.mpr q.2) (by rw [z_19]; decide)), (by have q9 := WR_yt hR1 hg; exact q9), hO.2⟩) dX11_addNeed_49
