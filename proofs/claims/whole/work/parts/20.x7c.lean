/-! THE CLASS: its readers; what each answers -/
def vI (i : Int32) (n : Nat) : Bool := decide (0 ≤ i.toInt ∧ i.toInt < n)
theorem vI_iff {i : Int32} {n : Nat} : vI i n = true ↔ vp_in i n := by rw [vI, decide_eq_true_eq, vp_in_iff]
theorem vI_nI {j n : Nat} (h : j < n) (hn : n < 2 ^ 31) : vI (nI j) n = true := vI_iff.mpr (vp_in_nI h hn)
theorem vI_no {i : Int32} {n : Nat} (h : ¬ vp_in i n) : vI i n = false := by
  cases hv : vI i n with
  | false => rfl
  | true => exact absurd (vI_iff.mp hv) h
def spLS {α : Type} (S : AT) (ua ub : Int32) (v : Nat → Nat → Nat × α) (d : α) : Nat × α := if vI ua (aL S) && vI ub (aN S) then v ua.toNatClampNeg ub.toNatClampNeg else (1, d)
def spL {α : Type} (S : AT) (i : Int32) (v : Nat → Nat × α) (d : α) : Nat × α := if vI i (aL S) then v i.toNatClampNeg else (1, d)
def spK {α : Type} (S : AT) (i : Int32) (v : Nat → Nat × α) (d : α) : Nat × α := if vI i (aN S) then v i.toNatClampNeg else (1, d)
theorem spLS_y {α : Type} {S : AT} {j k : Nat} {v : Nat → Nat → Nat × α} {d : α} (hj : j < aL S) (hk : k < aN S) (hl : aL S ≤ 4) (hn : aN S ≤ 10) : spLS S (nI j) (nI k) v d = v j k := by
  unfold spLS
  rw [vI_nI hj (by omega), vI_nI hk (by omega), nI_clamp (by omega), nI_clamp (by omega)]; rfl
theorem spLS_n {α : Type} {S : AT} {ua ub : Int32} {v : Nat → Nat → Nat × α} {d : α} (h : ¬ (vp_in ua (aL S) ∧ vp_in ub (aN S))) : spLS S ua ub v d = (1, d) := by
  unfold spLS
  rw [if_neg]
  intro q
  rw [Bool.and_eq_true] at q
  exact h ⟨vI_iff.mp q.1, vI_iff.mp q.2⟩
theorem spL_y {α : Type} {S : AT} {j : Nat} {v : Nat → Nat × α} {d : α} (hj : j < aL S) (hl : aL S ≤ 4) : spL S (nI j) v d = v j := by
  unfold spL
  rw [vI_nI hj (by omega), nI_clamp (by omega)]; rfl
theorem spL_n {α : Type} {S : AT} {i : Int32} {v : Nat → Nat × α} {d : α} (h : ¬ vp_in i (aL S)) : spL S i v d = (1, d) := by
  unfold spL
  rw [vI_no h]; rfl
theorem spK_y {α : Type} {S : AT} {j : Nat} {v : Nat → Nat × α} {d : α} (hj : j < aN S) (hl : aN S ≤ 10) : spK S (nI j) v d = v j := by
  unfold spK
  rw [vI_nI hj (by omega), nI_clamp (by omega)]; rfl
theorem spK_n {α : Type} {S : AT} {i : Int32} {v : Nat → Nat × α} {d : α} (h : ¬ vp_in i (aN S)) : spK S i v d = (1, d) := by
  unfold spK
  rw [vI_no h]; rfl
abbrev spIsOpen (S : AT) (ua ub : Int32) : Nat × Int32 := spLS S ua ub (fun j k => (0, zb (opn S j k))) 0
abbrev spOdds (S : AT) (ua ub : Int32) : Nat × Int32 := spLS S ua ub (fun j k => (0, nI (mOd (aM S j k)))) 0
abbrev spAns (S : AT) (ua ub : Int32) : Nat × Int32 := spLS S ua ub (fun j k => (0, nI (mAn (aM S j k)).length)) 0
abbrev spDue (S : AT) (ua ub : Int32) : Nat × Int32 := spLS S ua ub (fun j k => if mDu (aM S j k) = 0 then (2, 0) else (0, du (mDu (aM S j k)))) 0
abbrev spRev (S : AT) (i : Int32) : Nat × Int32 := spL S i (fun j => (0, nI (cntB (dueB S j) (aN S)))) 0
def rvP (S : AT) (j : Nat) (ix : Int32) : Nat → Bool := fun k => !(dueB S j k && decide (nI (rah S j k) = ix))
abbrev spRevAt (S : AT) (i ix : Int32) : Nat × Int32 := spL S i (fun j => if ffd (rvP S j ix) (aN S) 0 < aN S then (0, nI (ffd (rvP S j ix) (aN S) 0)) else (2, 0)) 0
abbrev spChs (S : AT) (i : Int32) : Nat × Int32 := spL S i (fun j => if chs S j = 0 then (2, 0) else (0, nI (chs S j - 1))) 0
def eqP (q : eqT) (k : Int32) : Int32 := if k = 97 then q.1 else if k = 98 then q.2.1 else if k = 99 then q.2.2.1 else q.2.2.2
def ptV (o : Option exT) (k : Int32) : Nat × Int32 := if 97 ≤ k ∧ k ≤ 100 then (match o with | none => (3, 0) | some e => (0, eqP e.2.2.1 k)) else (2, 0)
abbrev spPart (S : AT) (i k : Int32) : Nat × Int32 := spL S i (fun j => ptV (lEx (aE S j)) k) 0
def faV (o : Option exT) : Nat × Int32 := match o with
  | none => (2, 0)
  | some e => (0, nI (10 * e.2.2.2.1 + e.2.2.2.2))
abbrev spFaults (S : AT) (i : Int32) : Nat × Int32 := spL S i (fun j => faV (lEx (aE S j))) 0
/-- the sum over all odds, by learners and skills -/
def ckI (S : AT) (j : Nat) (s : Int64) : Nat → Int64
  | 0 => s
  | i + 1 => 31 * ckI S j s i + (nI (mOd (aM S j i))).toInt64
def ckO (S : AT) : Nat → Int64
  | 0 => 0
  | j + 1 => ckI S j (ckO S j) (aN S)
def knC (S : AT) : Nat → Nat
  | 0 => 0
  | j + 1 => knC S j + cntB (fun i => decide (700 ≤ mOd (aM S j i))) (aN S)
theorem knC_le (S : AT) : ∀ j, knC S j ≤ j * aN S
  | 0 => by rw [Nat.zero_mul]; exact Nat.le_refl 0
  | j + 1 => by
    have := knC_le S j
    have h2 := cntB_le (fun i => decide (700 ≤ mOd (aM S j i))) (aN S)
    show knC S j + _ ≤ _
    rw [Nat.succ_mul]; omega
def smO (S : AT) (k : Nat) : Nat → Nat
  | 0 => 0
  | j + 1 => smO S k j + mOd (aM S j k)
def shF (S : AT) : UInt32 := FP.fdiv (FP.i2f (nI (knC S (aL S)))) (FP.i2f (nI (aL S * aN S)))
def mnF (S : AT) (k : Nat) : UInt64 := FP.ddiv (FP.i2d (nI (smO S k (aL S)))) (FP.i2d (nI (aL S)))
theorem sh_nan : ∀ b, b < 41 → b ≠ 0 → ∀ a, a < 41 → vf_n32 (FP.fdiv (FP.i2f (nI a)) (FP.i2f (nI b))) := by unfold vf_n32; decide +kernel
theorem mn_nan0 : ∀ b, b < 5 → b ≠ 0 → ∀ q, q < 63 → ∀ r, r < 64 → vf_n64 (FP.ddiv (FP.i2d (nI (64 * q + r))) (FP.i2d (nI b))) := by unfold vf_n64; decide +kernel
theorem mn_nan (b : Nat) (hb : b < 5) (h0 : b ≠ 0) (a : Nat) (ha : a < 4001) : vf_n64 (FP.ddiv (FP.i2d (nI a)) (FP.i2d (nI b))) := by
  have h := mn_nan0 b hb h0 (a / 64) (by omega) (a % 64) (by omega)
  rw [show 64 * (a / 64) + a % 64 = a by omega] at h
  exact h
/-- what is reached from a set of skills in one step, in so many steps -/
def nbL (S : AT) (r : Nat) : Nat → Nat
  | 0 => 0
  | i + 1 => if r.testBit i then nbL S r i ||| (aS S i).2.2.2 else nbL S r i
def ctn (S : AT) (a : Nat) : Nat → Nat
  | 0 => 2 ^ a
  | t + 1 => ctn S a t ||| nbL S (ctn S a t) (aN S)
theorem shl_1 : ∀ k, k < 31 → (1 : Int32) <<< (nI k &&& 31) = nI (2 ^ k) := by decide +kernel
theorem or_10 {a b : Nat} (ha : a < 1024) (hb : b < 1024) : a ||| b < 1024 := Nat.or_lt_two_pow (n := 10) ha hb
theorem nbL_lt {S : AT} {r : Nat} (h : ∀ k, k < aN S → (aS S k).2.2.2 < 1024) : ∀ i, i ≤ aN S → nbL S r i < 1024
  | 0, _ => by show 0 < 1024; omega
  | i + 1, hi => by
    have ih := nbL_lt (r := r) h i (by omega)
    show (if r.testBit i then nbL S r i ||| (aS S i).2.2.2 else nbL S r i) < 1024
    split
    · exact or_10 ih (h i (by omega))
    · exact ih
theorem ctn_lt {S : AT} {a : Nat} (h : ∀ k, k < aN S → (aS S k).2.2.2 < 1024) (ha : a < 10) : ∀ t, ctn S a t < 1024
  | 0 => Nat.pow_lt_pow_right (a := 2) (n := 10) (by decide) ha
  | t + 1 => or_10 (ctn_lt h ha t) (nbL_lt h _ (Nat.le_refl _))
theorem frL_le (S : AT) (j : Nat) : ∀ i, frL S j i ≤ i
  | 0 => Nat.le_refl 0
  | i + 1 => by
    have := frL_le S j i
    show frS S j (frL S j i) i ≤ i + 1
    unfold frS
    split <;> omega
theorem bnL_le (S : AT) (j : Nat) : ∀ i, (bnL S j i).1 ≤ i
  | 0 => Nat.le_refl 0
  | i + 1 => by
    have := bnL_le S j i
    show (bnS S j (bnL S j i) i).1 ≤ i + 1
    unfold bnS
    split
    · show i + 1 ≤ i + 1; omega
    · omega

set_option maxHeartbeats 4000000 in
set_option maxRecDepth 100000 in
theorem c_X7_checkOpen (l : Launch) (hfl : l.stackTraces = false) (G : mq_G) (A : Nat → Prop) (f : mq_F) (ad : AD) (S : AT) (X : CX) (S2 : AT) (Y : MX) (O : OX) (T : Nat) (j k : Nat) : vx_Met l yX7_checkOpen wsX7_checkOpen ({ frames := 7, cells := 1, slots := 6, locals := 120 } : Room) (mq_Pc G A f (WR G f ad S X S2 Y O ∧ cOK S X T ∧ j < aL S ∧ k < aN S) [.ref (ad 0 0 0), .ref (ad 5 j 0), .int (nI k)]) (mq_Qv G A (fun g => f = g ∧ opn S j k = true)) (mq_X G A (fun E g => E = "java/lang/IllegalStateException" ∧ f = g ∧ opn S j k = false)) 1 6 A := by
  refine vx_ofW (cc := cX7_checkOpen) (maxL := 3) (ret := none) (by decide) rfl ?_
  intro p e s m args below meth c s₁ B hml ht9 hv
  obtain ⟨rfl, ⟨hK, hZ, hM, hA⟩, hp⟩ := hv
  have hx := B.exec
  have hb := B.bytes
  have hr := B.returns
  have hts := atoms_spec (ws := wsX7_checkOpen) B.pre
  have hown : s.vm.findClass RX7 = some m.cls := findClass_of_methodNamed B.named
  have hlocks := B.notSynchronized
  have hS : va_S A s.heap s.heap [] := va_S.rf
  have hl := lv_entry ([.ref (ad 0 0 0), .ref (ad 5 j 0), .int (nI k)]) (n := 3) (Nat.le_of_ble_eq_true rfl)
  rw [lg_entry_eq]
  generalize (lg_sl ([.ref (ad 0 0 0), .ref (ad 5 j 0), .int (nI k)]) ++ List.replicate (3 - (lg_sl ([.ref (ad 0 0 0), .ref (ad 5 j 0), .int (nI k)])).length) Slot.unset).toArray = ls at hl ⊢
  have hl : lv_has ls 3 [(0, .ref (ad 0 0 0)), (1, .ref (ad 5 j 0)), (2, .int (nI k))] := hl
  have w0 := hts (.classLink RX7 36 "java/lang/IllegalStateException") (List.mem_of_getElem? (i := 1) rfl)
  have w1 := hts (.initialized "java/lang/IllegalStateException") (List.mem_of_getElem? (i := 2) rfl)
  obtain ⟨hR, hO, hj, hk⟩ := hp
  obtain ⟨⟨hn, hl4, hd2, hT⟩, hsk, hma, hdc, hle, hxb⟩ := id hO
  have y0_35 := hR.1 _ _ _ _ (t0)
  refine lv_aload_n hx hb dX7_checkOpen_0 rfl (lv_at hl 0 rfl) ?_
  refine lv_aload_n hx hb dX7_checkOpen_1 rfl (lv_at hl 1 rfl) ?_
  refine lv_iload_n hx hb dX7_checkOpen_2 rfl (lv_at hl 2 rfl) ?_
  refine mq_calli (va_runV (As := [.ref (ad 5 j 0), .int (nI k)]) (rest := []) ⟨hx, hb, hml, hown, hts⟩ (c_X7_isOpenFor l G A f ad S X S2 Y O T j k) (cwV 2 hts gX7_checkOpen_X7_isOpenFor rfl rfl rfl (by decide +kernel) ⟨Nat.le_of_ble_eq_true rfl, Nat.le_of_ble_eq_true rfl⟩) (mq_preV hK hZ hS hA hM (q := (RX7, TX7, 6)) y0_35 rfl (⟨hR, hO, hj, hk⟩) _) rfl rfl hl.1 rfl (lv_room (Nat.le_of_ble_eq_true rfl)) dX7_checkOpen_3 ⟨Nat.le_of_ble_eq_true rfl, Nat.le_of_ble_eq_true rfl⟩) hS (fun r3 g3 H locs p3 hM hS => ?_)
  refine W.widen (k := 0) (n := 0) (Nat.le_of_ble_eq_true rfl) (Nat.le_of_ble_eq_true rfl) ?_
  obtain ⟨rfl, rfl⟩ := p3
  refine lv_if_ne (tgt := 19) hx hb dX7_checkOpen_6 (by decide) (fun c_6 => ?_) (fun c_6 => ?_)
  · replace c_6 : ¬ zb (opn S j k) = 0 := c_6
    rw [zb_n0] at c_6
    refine vx_ret ?_
    refine W.widen (k := 1) (n := 6) (Nat.le_of_ble_eq_true rfl) (Nat.le_of_ble_eq_true rfl) ?_
    exact mq_vret hx hb hr hlocks hM hS (⟨rfl, c_6⟩) dX7_checkOpen_19
  · replace c_6 : zb (opn S j k) = 0 := c_6
    rw [zb_0] at c_6
    obtain ⟨sa, hsa⟩ := mq_str hZ (own := RX7) (k := 252) (tx := "the skill is not open") (by decide +kernel)
    refine vx_throwS (A := A) (own := RX7) (cls := "java/lang/IllegalStateException") (text := "the skill is not open") (names := ["java/lang/RuntimeException", "java/lang/Exception"]) (ik := 36) (is := 252) (ic := 40) hx hb hfl hown (by decide +kernel) (by decide +kernel) w0 w1 hsa (mq_hat hZ (fun w h => hts w (List.mem_cons_of_mem _ (List.mem_append_right _ h))) (by decide +kernel)) (by decide +kernel) hZ.1.1 hZ.1.2 hS (by rw [hml]; exact hl.1) dX7_checkOpen_9 dX7_checkOpen_12 dX7_checkOpen_13 dX7_checkOpen_15 dX7_checkOpen_18 (fun x hx => (ht9 x hx).elim) (Nat.le_of_ble_eq_true rfl) (Nat.le_of_ble_eq_true rfl) (Nat.le_of_ble_eq_true rfl) (Nat.le_of_ble_eq_true rfl) hlocks (fun t9 hv9 hz9 hq9 => mq_thrown hM hS hz9 hq9 (⟨rfl, rfl, c_6⟩)) hS.2.2 (Nat.le_of_ble_eq_true rfl) (Nat.le_of_ble_eq_true rfl)

set_option maxHeartbeats 4000000 in
set_option maxRecDepth 100000 in
theorem c_X7_isOpen (l : Launch) (hfl : l.stackTraces = false) (G : mq_G) (A : Nat → Prop) (f : mq_F) (ad : AD) (S : AT) (X : CX) (S2 : AT) (Y : MX) (O : OX) (T : Nat) (ua ub : Int32) : vx_Met l yX7_isOpen wsX7_isOpen ({ frames := 8, cells := 2, slots := 12, locals := 141 } : Room) (mq_Pc G A f (WR G f ad S X S2 Y O ∧ cOK S X T) [.ref (ad 0 0 0), .int ua, .int ub]) (mq_Qi G A (fun r g => f = g ∧ spIsOpen S ua ub = (0, r))) (mq_X G A (fun E g => f = g ∧ ((spIsOpen S ua ub).1 = 1 ∧ E = "java/lang/IndexOutOfBoundsException"))) 2 12 A := by
  refine vx_ofW (cc := cX7_isOpen) (maxL := 4) (ret := (some .boolean)) (by decide) rfl ?_
  intro p e s m args below meth c s₁ B hml ht9 hv
  obtain ⟨rfl, ⟨hK, hZ, hM, hA⟩, hp⟩ := hv
  have hx := B.exec
  have hb := B.bytes
  have hr := B.returns
  have hts := atoms_spec (ws := wsX7_isOpen) B.pre
  have hown : s.vm.findClass RX7 = some m.cls := findClass_of_methodNamed B.named
  have hlocks := B.notSynchronized
  have hS : va_S A s.heap s.heap [] := va_S.rf
  have hl := lv_entry ([.ref (ad 0 0 0), .int ua, .int ub]) (n := 4) (Nat.le_of_ble_eq_true rfl)
  rw [lg_entry_eq]
  generalize (lg_sl ([.ref (ad 0 0 0), .int ua, .int ub]) ++ List.replicate (4 - (lg_sl ([.ref (ad 0 0 0), .int ua, .int ub])).length) Slot.unset).toArray = ls at hl ⊢
  have hl : lv_has ls 4 [(0, .ref (ad 0 0 0)), (1, .int ua), (2, .int ub)] := hl
  obtain ⟨hR, hO⟩ := hp
  obtain ⟨⟨hn, hl4, hd2, hT⟩, hsk, hma, hdc, hle, hxb⟩ := id hO
  have y0_36 := hR.1 _ _ _ _ (t0)
  refine lv_aload_n hx hb dX7_isOpen_0 rfl (lv_at hl 0 rfl) ?_
  refine lv_iload_n hx hb dX7_isOpen_1 rfl (lv_at hl 1 rfl) ?_
  refine mq_xcallq (vx_runV (As := [.int ua]) (rest := []) ⟨hx, hb, hml, hown, hts⟩ (c_X7_learnerAt l hfl G A f ad S X S2 Y O T ua) (cwV 1 hts gX7_isOpen_X7_learnerAt rfl rfl rfl (by decide +kernel) ⟨Nat.le_of_ble_eq_true rfl, Nat.le_of_ble_eq_true rfl⟩) (mq_preV hK hZ hS hA hM (q := (RX7, TX7, 6)) y0_36 rfl (⟨hR, hO⟩) _) rfl rfl hl.1 rfl (lv_room (Nat.le_of_ble_eq_true rfl)) dX7_isOpen_2 ⟨Nat.le_of_ble_eq_true rfl, Nat.le_of_ble_eq_true rfl⟩) hS (fun E ce q9 g2 H locs p2 hM hS hce hcv hcl => ?_) (fun r2 g2 H locs p2 hM hS => ?_)
  · obtain ⟨rfl, rfl, q9⟩ := p2
    exact mq_out (List.eq_nil_iff_forall_not_mem.mpr fun x hx => ht9 x hx) hlocks hce hcv hcl hM hS (⟨rfl, ⟨congrArg Prod.fst (spLS_n (fun q => q9 q.1)), rfl⟩⟩) (Nat.le_of_ble_eq_true rfl) (Nat.le_of_ble_eq_true rfl)
  refine W.widen (k := 1) (n := 6) (Nat.le_of_ble_eq_true rfl) (Nat.le_of_ble_eq_true rfl) ?_
  obtain ⟨rfl, j, hj, rfl, rfl⟩ := p2
  refine lv_astore_n (lv' := [(3, .ref (ad 5 j 0)), (0, .ref (ad 0 0 0)), (1, .int (nI j)), (2, .int ub)]) hx hb dX7_isOpen_5 rfl hl (by decide) rfl (fun ls hl => ?_)
  refine lv_aload_n hx hb dX7_isOpen_6 rfl (lv_at hl 1 rfl) ?_
  refine lv_iload_n hx hb dX7_isOpen_7 rfl (lv_at hl 3 rfl) ?_
  refine mq_xcallq (vx_runV (As := [.int ub]) (rest := []) ⟨hx, hb, hml, hown, hts⟩ (c_X7_skillAt l hfl G A f ad S X S2 Y O T ub) (cwV 1 hts gX7_isOpen_X7_skillAt rfl rfl rfl (by decide +kernel) ⟨Nat.le_of_ble_eq_true rfl, Nat.le_of_ble_eq_true rfl⟩) (mq_preV hK hZ hS hA hM (q := (RX7, TX7, 6)) y0_36 rfl (⟨hR, hO⟩) _) rfl rfl hl.1 rfl (lv_room (Nat.le_of_ble_eq_true rfl)) dX7_isOpen_8 ⟨Nat.le_of_ble_eq_true rfl, Nat.le_of_ble_eq_true rfl⟩) hS (fun E ce q9 g8 H locs p8 hM hS hce hcv hcl => ?_) (fun r8 g8 H locs p8 hM hS => ?_)
  · obtain ⟨rfl, rfl, q9⟩ := p8
    exact mq_out (List.eq_nil_iff_forall_not_mem.mpr fun x hx => ht9 x hx) hlocks hce hcv hcl hM hS (⟨rfl, ⟨congrArg Prod.fst (spLS_n (fun q => q9 q.2)), rfl⟩⟩) (Nat.le_of_ble_eq_true rfl) (Nat.le_of_ble_eq_true rfl)
  refine W.widen (k := 2) (n := 12) (Nat.le_of_ble_eq_true rfl) (Nat.le_of_ble_eq_true rfl) ?_
  obtain ⟨rfl, k, hk, rfl, rfl⟩ := p8
  refine lv_pop hx hb dX7_isOpen_11 rfl ?_
  refine lv_aload_n hx hb dX7_isOpen_12 rfl (lv_at hl 1 rfl) ?_
  refine lv_aload_n hx hb dX7_isOpen_13 rfl (lv_at hl 0 rfl) ?_
  refine lv_iload_n hx hb dX7_isOpen_14 rfl (lv_at hl 3 rfl) ?_
  refine mq_calli (va_runV (As := [.ref (ad 5 j 0), .int (nI k)]) (rest := []) ⟨hx, hb, hml, hown, hts⟩ (c_X7_isOpenFor l G A f ad S X S2 Y O T j k) (cwV 2 hts gX7_isOpen_X7_isOpenFor rfl rfl rfl (by decide +kernel) ⟨Nat.le_of_ble_eq_true rfl, Nat.le_of_ble_eq_true rfl⟩) (mq_preV hK hZ hS hA hM (q := (RX7, TX7, 6)) y0_36 rfl (⟨hR, hO, hj, hk⟩) _) rfl rfl hl.1 rfl (lv_room (Nat.le_of_ble_eq_true rfl)) dX7_isOpen_15 ⟨Nat.le_of_ble_eq_true rfl, Nat.le_of_ble_eq_true rfl⟩) hS (fun r15 g15 H locs p15 hM hS => ?_)
  refine W.widen (k := 2) (n := 12) (Nat.le_of_ble_eq_true rfl) (Nat.le_of_ble_eq_true rfl) ?_
  obtain ⟨rfl, rfl⟩ := p15
  refine vx_ret ?_
  exact mq_zret (v := zb (opn S j k)) hx hb hr (zb_nar _) hlocks hM hS (⟨rfl, spLS_y hj hk hl4 hn⟩) dX7_isOpen_18

set_option maxHeartbeats 4000000 in
set_option maxRecDepth 100000 in
theorem c_X7_odds (l : Launch) (hfl : l.stackTraces = false) (G : mq_G) (A : Nat → Prop) (f : mq_F) (ad : AD) (S : AT) (X : CX) (S2 : AT) (Y : MX) (O : OX) (T : Nat) (ua ub : Int32) : vx_Met l yX7_odds wsX7_odds ({ frames := 9, cells := 2, slots := 12, locals := 164 } : Room) (mq_Pc G A f (WR G f ad S X S2 Y O ∧ cOK S X T) [.ref (ad 0 0 0), .int ua, .int ub]) (mq_Qi G A (fun r g => f = g ∧ spOdds S ua ub = (0, r))) (mq_X G A (fun E g => f = g ∧ ((spOdds S ua ub).1 = 1 ∧ E = "java/lang/IndexOutOfBoundsException"))) 2 12 A := by
  refine vx_ofW (cc := cX7_odds) (maxL := 3) (ret := (some .int)) (by decide) rfl ?_
  intro p e s m args below meth c s₁ B hml ht9 hv
  obtain ⟨rfl, ⟨hK, hZ, hM, hA⟩, hp⟩ := hv
  have hx := B.exec
  have hb := B.bytes
  have hr := B.returns
  have hts := atoms_spec (ws := wsX7_odds) B.pre
  have hown : s.vm.findClass RX7 = some m.cls := findClass_of_methodNamed B.named
  have hlocks := B.notSynchronized
  have hS : va_S A s.heap s.heap [] := va_S.rf
  have hl := lv_entry ([.ref (ad 0 0 0), .int ua, .int ub]) (n := 3) (Nat.le_of_ble_eq_true rfl)
  rw [lg_entry_eq]
  generalize (lg_sl ([.ref (ad 0 0 0), .int ua, .int ub]) ++ List.replicate (3 - (lg_sl ([.ref (ad 0 0 0), .int ua, .int ub])).length) Slot.unset).toArray = ls at hl ⊢
  have hl : lv_has ls 3 [(0, .ref (ad 0 0 0)), (1, .int ua), (2, .int ub)] := hl
  have w0 := hts (.fieldLink RX7 96 "Tutorlight$Mastery" "odds" "I") (List.mem_of_getElem? (i := 1) rfl)
  have nX4 : ∀ w ∈ wsX40, w ∈ wsX7_odds := fun _ h => List.mem_cons_of_mem _ (List.mem_append_left _ (List.mem_append_left _ (List.mem_append_left _ (List.mem_append_right _ h))))
  obtain ⟨hR, hO⟩ := hp
  obtain ⟨⟨hn, hl4, hd2, hT⟩, hsk, hma, hdc, hle, hxb⟩ := id hO
  have y0_38 := hR.1 _ _ _ _ (t0)
  refine lv_aload_n hx hb dX7_odds_0 rfl (lv_at hl 0 rfl) ?_
  refine lv_iload_n hx hb dX7_odds_1 rfl (lv_at hl 1 rfl) ?_
  refine lv_iload_n hx hb dX7_odds_2 rfl (lv_at hl 2 rfl) ?_
  refine mq_xcallq (vx_runV (As := [.int ua, .int ub]) (rest := []) ⟨hx, hb, hml, hown, hts⟩ (c_X7_masteryAt l hfl G A f ad S X S2 Y O T ua ub) (cwV 2 hts gX7_odds_X7_masteryAt rfl rfl rfl (by decide +kernel) ⟨Nat.le_of_ble_eq_true rfl, Nat.le_of_ble_eq_true rfl⟩) (mq_preV hK hZ hS hA hM (q := (RX7, TX7, 6)) y0_38 rfl (⟨hR, hO⟩) _) rfl rfl hl.1 rfl (lv_room (Nat.le_of_ble_eq_true rfl)) dX7_odds_3 ⟨Nat.le_of_ble_eq_true rfl, Nat.le_of_ble_eq_true rfl⟩) hS (fun E ce q9 g3 H locs p3 hM hS hce hcv hcl => ?_) (fun r3 g3 H locs p3 hM hS => ?_)
  · obtain ⟨rfl, rfl, q9⟩ := p3
    exact mq_out (List.eq_nil_iff_forall_not_mem.mpr fun x hx => ht9 x hx) hlocks hce hcv hcl hM hS (⟨rfl, ⟨congrArg Prod.fst (spLS_n q9), rfl⟩⟩) (Nat.le_of_ble_eq_true rfl) (Nat.le_of_ble_eq_true rfl)
  refine W.widen (k := 2) (n := 12) (Nat.le_of_ble_eq_true rfl) (Nat.le_of_ble_eq_true rfl) ?_
  obtain ⟨rfl, j, k, hj, hk, rfl, rfl, rfl⟩ := p3
  have y7_37 := hR.1 _ _ _ _ (t7 (j := j) (k := k) hj (by omega))
  refine mq_get (ci := 9) (v := .int (nI (mOd (aM S j k)))) (C := RX4) (T := TX4) (N := 7) hx hb hts nX4 hown hK hM y7_37 rfl 0 (by decide) w0 (fun _ h9 => h9) rfl dX7_odds_6 ?_
  refine vx_ret ?_
  exact mq_iret (v := nI (mOd (aM S j k))) hx hb hr hlocks hM hS (⟨rfl, spLS_y hj hk hl4 hn⟩) dX7_odds_9

set_option maxHeartbeats 4000000 in
set_option maxRecDepth 100000 in
theorem c_X7_answers (l : Launch) (hfl : l.stackTraces = false) (G : mq_G) (A : Nat → Prop) (f : mq_F) (ad : AD) (S : AT) (X : CX) (S2 : AT) (Y : MX) (O : OX) (T : Nat) (ua ub : Int32) : vx_Met l yX7_answers wsX7_answers ({ frames := 9, cells := 2, slots := 12, locals := 164 } : Room) (mq_Pc G A f (WR G f ad S X S2 Y O ∧ cOK S X T) [.ref (ad 0 0 0), .int ua, .int ub]) (mq_Qi G A (fun r g => f = g ∧ spAns S ua ub = (0, r))) (mq_X G A (fun E g => f = g ∧ ((spAns S ua ub).1 = 1 ∧ E = "java/lang/IndexOutOfBoundsException"))) 2 12 A := by
  refine vx_ofW (cc := cX7_answers) (maxL := 3) (ret := (some .int)) (by decide) rfl ?_
  intro p e s m args below meth c s₁ B hml ht9 hv
  obtain ⟨rfl, ⟨hK, hZ, hM, hA⟩, hp⟩ := hv
  have hx := B.exec
  have hb := B.bytes
  have hr := B.returns
  have hts := atoms_spec (ws := wsX7_answers) B.pre
  have hown : s.vm.findClass RX7 = some m.cls := findClass_of_methodNamed B.named
  have hlocks := B.notSynchronized
  have hS : va_S A s.heap s.heap [] := va_S.rf
  have hl := lv_entry ([.ref (ad 0 0 0), .int ua, .int ub]) (n := 3) (Nat.le_of_ble_eq_true rfl)
  rw [lg_entry_eq]
  generalize (lg_sl ([.ref (ad 0 0 0), .int ua, .int ub]) ++ List.replicate (3 - (lg_sl ([.ref (ad 0 0 0), .int ua, .int ub])).length) Slot.unset).toArray = ls at hl ⊢
  have hl : lv_has ls 3 [(0, .ref (ad 0 0 0)), (1, .int ua), (2, .int ub)] := hl
  have w0 := hts (.fieldLink RX7 114 "Tutorlight$Mastery" "answerCount" "I") (List.mem_of_getElem? (i := 1) rfl)
  have nX4 : ∀ w ∈ wsX40, w ∈ wsX7_answers := fun _ h => List.mem_cons_of_mem _ (List.mem_append_left _ (List.mem_append_left _ (List.mem_append_left _ (List.mem_append_right _ h))))
  obtain ⟨hR, hO⟩ := hp
  obtain ⟨⟨hn, hl4, hd2, hT⟩, hsk, hma, hdc, hle, hxb⟩ := id hO
  have y0_40 := hR.1 _ _ _ _ (t0)
  refine lv_aload_n hx hb dX7_answers_0 rfl (lv_at hl 0 rfl) ?_
  refine lv_iload_n hx hb dX7_answers_1 rfl (lv_at hl 1 rfl) ?_
  refine lv_iload_n hx hb dX7_answers_2 rfl (lv_at hl 2 rfl) ?_
  refine mq_xcallq (vx_runV (As := [.int ua, .int ub]) (rest := []) ⟨hx, hb, hml, hown, hts⟩ (c_X7_masteryAt l hfl G A f ad S X S2 Y O T ua ub) (cwV 2 hts gX7_answers_X7_masteryAt rfl rfl rfl (by decide +kernel) ⟨Nat.le_of_ble_eq_true rfl, Nat.le_of_ble_eq_true rfl⟩) (mq_preV hK hZ hS hA hM (q := (RX7, TX7, 6)) y0_40 rfl (⟨hR, hO⟩) _) rfl rfl hl.1 rfl (lv_room (Nat.le_of_ble_eq_true rfl)) dX7_answers_3 ⟨Nat.le_of_ble_eq_true rfl, Nat.le_of_ble_eq_true rfl⟩) hS (fun E ce q9 g3 H locs p3 hM hS hce hcv hcl => ?_) (fun r3 g3 H locs p3 hM hS => ?_)
  · obtain ⟨rfl, rfl, q9⟩ := p3
    exact mq_out (List.eq_nil_iff_forall_not_mem.mpr fun x hx => ht9 x hx) hlocks hce hcv hcl hM hS (⟨rfl, ⟨congrArg Prod.fst (spLS_n q9), rfl⟩⟩) (Nat.le_of_ble_eq_true rfl) (Nat.le_of_ble_eq_true rfl)
  refine W.widen (k := 2) (n := 12) (Nat.le_of_ble_eq_true rfl) (Nat.le_of_ble_eq_true rfl) ?_
  obtain ⟨rfl, j, k, hj, hk, rfl, rfl, rfl⟩ := p3
  have y7_39 := hR.1 _ _ _ _ (t7 (j := j) (k := k) hj (by omega))
  refine mq_get (ci := 9) (v := .int (nI ((mAn (aM S j k)).length))) (C := RX4) (T := TX4) (N := 7) hx hb hts nX4 hown hK hM y7_39 rfl 1 (by decide) w0 (fun _ h9 => h9) rfl dX7_answers_6 ?_
  refine vx_ret ?_
  exact mq_iret (v := nI ((mAn (aM S j k)).length)) hx hb hr hlocks hM hS (⟨rfl, spLS_y hj hk hl4 hn⟩) dX7_answers_9

set_option maxHeartbeats 4000000 in
set_option maxRecDepth 100000 in
theorem c_X7_due (l : Launch) (hfl : l.stackTraces = false) (G : mq_G) (A : Nat → Prop) (f : mq_F) (ad : AD) (S : AT) (X : CX) (S2 : AT) (Y : MX) (O : OX) (T : Nat) (ua ub : Int32) : vx_Met l yX7_due wsX7_due ({ frames := 9, cells := 3, slots := 18, locals := 164 } : Room) (mq_Pc G A f (WR G f ad S X S2 Y O ∧ cOK S X T) [.ref (ad 0 0 0), .int ua, .int ub]) (mq_Qi G A (fun r g => f = g ∧ spDue S ua ub = (0, r))) (mq_X G A (fun E g => f = g ∧ ((spDue S ua ub).1 = 1 ∧ E = "java/lang/IndexOutOfBoundsException" ∨ (spDue S ua ub).1 = 2 ∧ E = "java/util/NoSuchElementException"))) 3 18 A := by
  refine vx_ofW (cc := cX7_due) (maxL := 4) (ret := (some .int)) (by decide) rfl ?_
  intro p e s m args below meth c s₁ B hml ht9 hv
  obtain ⟨rfl, ⟨hK, hZ, hM, hA⟩, hp⟩ := hv
  have hx := B.exec
  have hb := B.bytes
  have hr := B.returns
  have hts := atoms_spec (ws := wsX7_due) B.pre
  have hown : s.vm.findClass RX7 = some m.cls := findClass_of_methodNamed B.named
  have hlocks := B.notSynchronized
  have hS : va_S A s.heap s.heap [] := va_S.rf
  have hl := lv_entry ([.ref (ad 0 0 0), .int ua, .int ub]) (n := 4) (Nat.le_of_ble_eq_true rfl)
  rw [lg_entry_eq]
  generalize (lg_sl ([.ref (ad 0 0 0), .int ua, .int ub]) ++ List.replicate (4 - (lg_sl ([.ref (ad 0 0 0), .int ua, .int ub])).length) Slot.unset).toArray = ls at hl ⊢
  have hl : lv_has ls 4 [(0, .ref (ad 0 0 0)), (1, .int ua), (2, .int ub)] := hl
  have w0 := hts (.fieldLink RX7 134 "Tutorlight$Mastery" "dueDay" "I") (List.mem_of_getElem? (i := 3) rfl)
  have w1 := hts (.classLink RX7 129 "java/util/NoSuchElementException") (List.mem_of_getElem? (i := 1) rfl)
  have w2 := hts (.initialized "java/util/NoSuchElementException") (List.mem_of_getElem? (i := 2) rfl)
  have nX4 : ∀ w ∈ wsX40, w ∈ wsX7_due := fun _ h => List.mem_cons_of_mem _ (List.mem_append_left _ (List.mem_append_left _ (List.mem_append_left _ (List.mem_append_left _ (List.mem_append_right _ h)))))
  obtain ⟨hR, hO⟩ := hp
  obtain ⟨⟨hn, hl4, hd2, hT⟩, hsk, hma, hdc, hle, hxb⟩ := id hO
  have y0_42 := hR.1 _ _ _ _ (t0)
  refine lv_aload_n hx hb dX7_due_0 rfl (lv_at hl 0 rfl) ?_
  refine lv_iload_n hx hb dX7_due_1 rfl (lv_at hl 1 rfl) ?_
  refine lv_iload_n hx hb dX7_due_2 rfl (lv_at hl 2 rfl) ?_
  refine mq_xcallq (vx_runV (As := [.int ua, .int ub]) (rest := []) ⟨hx, hb, hml, hown, hts⟩ (c_X7_masteryAt l hfl G A f ad S X S2 Y O T ua ub) (cwV 2 hts gX7_due_X7_masteryAt rfl rfl rfl (by decide +kernel) ⟨Nat.le_of_ble_eq_true rfl, Nat.le_of_ble_eq_true rfl⟩) (mq_preV hK hZ hS hA hM (q := (RX7, TX7, 6)) y0_42 rfl (⟨hR, hO⟩) _) rfl rfl hl.1 rfl (lv_room (Nat.le_of_ble_eq_true rfl)) dX7_due_3 ⟨Nat.le_of_ble_eq_true rfl, Nat.le_of_ble_eq_true rfl⟩) hS (fun E ce q9 g3 H locs p3 hM hS hce hcv hcl => ?_) (fun r3 g3 H locs p3 hM hS => ?_)
  · obtain ⟨rfl, rfl, q9⟩ := p3
    exact mq_out (List.eq_nil_iff_forall_not_mem.mpr fun x hx => ht9 x hx) hlocks hce hcv hcl hM hS (⟨rfl, Or.inl (⟨congrArg Prod.fst (spLS_n q9), rfl⟩)⟩) (Nat.le_of_ble_eq_true rfl) (Nat.le_of_ble_eq_true rfl)
  refine W.widen (k := 2) (n := 12) (Nat.le_of_ble_eq_true rfl) (Nat.le_of_ble_eq_true rfl) ?_
  obtain ⟨rfl, j, k, hj, hk, rfl, rfl, rfl⟩ := p3
  obtain ⟨m1, m2, m3, m4, m5, m6, m7, m8⟩ := hma j k hj (by omega)
  have y7_41 := hR.1 _ _ _ _ (t7 (j := j) (k := k) hj (by omega))
  refine lv_astore_n (lv' := [(3, .ref (ad 7 j k)), (0, .ref (ad 0 0 0)), (1, .int (nI j)), (2, .int (nI k))]) hx hb dX7_due_6 rfl hl (by decide) rfl (fun ls hl => ?_)
  refine lv_aload_n hx hb dX7_due_7 rfl (lv_at hl 0 rfl) ?_
  refine mq_calli (va_runV (As := []) (rest := []) ⟨hx, hb, hml, hown, hts⟩ (c_X4_wasAnswered l G A f (ad 7 j k) (mOd (aM S j k)) (mDu (aM S j k)) (mTo (aM S j k)) (mRo (aM S j k)) (mOp (aM S j k)) (mAn (aM S j k)) (ad 8 j k)) (cwV 0 hts gX7_due_X4_wasAnswered rfl rfl rfl (by decide +kernel) ⟨Nat.le_of_ble_eq_true rfl, Nat.le_of_ble_eq_true rfl⟩) (mq_preV hK hZ hS hA hM (q := (RX4, TX4, 7)) y7_41 rfl (⟨y7_41, by omega⟩) _) rfl rfl hl.1 rfl (lv_room (Nat.le_of_ble_eq_true rfl)) dX7_due_8 ⟨Nat.le_of_ble_eq_true rfl, Nat.le_of_ble_eq_true rfl⟩) hS (fun r8 g8 H locs p8 hM hS => ?_)
  refine W.widen (k := 2) (n := 12) (Nat.le_of_ble_eq_true rfl) (Nat.le_of_ble_eq_true rfl) ?_
  obtain ⟨rfl, rfl⟩ := p8
  refine lv_if_ne (tgt := 24) hx hb dX7_due_11 (by decide) (fun c_11 => ?_) (fun c_11 => ?_)
  · replace c_11 : ¬ zb (decide (mDu (aM S j k) ≠ 0)) = 0 := c_11
    rw [zb_n0] at c_11
    rw [decide_eq_true_eq] at c_11
    refine lv_aload_n hx hb dX7_due_24 rfl (lv_at hl 0 rfl) ?_
    refine mq_get (ci := 9) (v := .int (du (mDu (aM S j k)))) (C := RX4) (T := TX4) (N := 7) hx hb hts nX4 hown hK hM y7_41 rfl 2 (by decide) w0 (fun _ h9 => h9) rfl dX7_due_25 ?_
    refine vx_ret ?_
    refine W.widen (k := 3) (n := 18) (Nat.le_of_ble_eq_true rfl) (Nat.le_of_ble_eq_true rfl) ?_
    exact mq_iret (v := du (mDu (aM S j k))) hx hb hr hlocks hM hS (⟨rfl, (spLS_y hj hk hl4 hn).trans (if_neg c_11)⟩) dX7_due_28
  · replace c_11 : zb (decide (mDu (aM S j k) ≠ 0)) = 0 := c_11
    rw [zb_0] at c_11
    rw [decide_eq_false_iff_not, Decidable.not_not] at c_11
    obtain ⟨sa, hsa⟩ := mq_str hZ (own := RX7) (k := 131) (tx := "never answered") (by decide +kernel)
    refine vn_throwS (A := A) (own := RX7) (cls := "java/util/NoSuchElementException") (text := "never answered") (names := ["java/lang/RuntimeException", "java/lang/Exception"]) (ik := 129) (is := 131) (ic := 133) hx hb hfl hown (by decide +kernel) (by decide +kernel) w1 w2 hsa (mq_hat hZ (fun w h => hts w (List.mem_cons_of_mem _ (List.mem_append_left _ (List.mem_append_right _ h)))) (by decide +kernel)) (by decide +kernel) hZ.1.1 hZ.1.2 hS (by rw [hml]; exact hl.1) dX7_due_14 dX7_due_17 dX7_due_18 dX7_due_20 dX7_due_23 (fun x hx => (ht9 x hx).elim) (Nat.le_of_ble_eq_true rfl) (Nat.le_of_ble_eq_true rfl) (Nat.le_of_ble_eq_true rfl) (Nat.le_of_ble_eq_true rfl) hlocks (fun t9 hv9 hz9 hq9 => mq_thrown hM hS hz9 hq9 (⟨rfl, Or.inr (⟨congrArg Prod.fst (show spDue S (nI j) (nI k) = ((2, 0) : Nat × Int32) from (spLS_y hj hk hl4 hn).trans (if_pos c_11)), rfl⟩)⟩)) hS.2.2 (Nat.le_of_ble_eq_true rfl) (Nat.le_of_ble_eq_true rfl)

set_option maxHeartbeats 4000000 in
set_option maxRecDepth 100000 in
theorem c_X7_oddsAnew (l : Launch) (hfl : l.stackTraces = false) (G : mq_G) (A : Nat → Prop) (f : mq_F) (ad : AD) (S : AT) (X : CX) (S2 : AT) (Y : MX) (O : OX) (T : Nat) (ua ub : Int32) : vx_Met l yX7_oddsAnew wsX7_oddsAnew ({ frames := 9, cells := 3, slots := 18, locals := 164 } : Room) (mq_Pc G A f (WR G f ad S X S2 Y O ∧ cOK S X T) [.ref (ad 0 0 0), .int ua, .int ub]) (mq_Qi G A (fun r g => f = g ∧ spOdds S ua ub = (0, r))) (mq_X G A (fun E g => f = g ∧ ((spOdds S ua ub).1 = 1 ∧ E = "java/lang/IndexOutOfBoundsException"))) 3 18 A := by
  refine vx_ofW (cc := cX7_oddsAnew) (maxL := 4) (ret := (some .int)) (by decide) rfl ?_
  intro p e s m args below meth c s₁ B hml ht9 hv
  obtain ⟨rfl, ⟨hK, hZ, hM, hA⟩, hp⟩ := hv
  have hx := B.exec
  have hb := B.bytes
  have hr := B.returns
  have hts := atoms_spec (ws := wsX7_oddsAnew) B.pre
  have hown : s.vm.findClass RX7 = some m.cls := findClass_of_methodNamed B.named
  have hlocks := B.notSynchronized
  have hS : va_S A s.heap s.heap [] := va_S.rf
  have hl := lv_entry ([.ref (ad 0 0 0), .int ua, .int ub]) (n := 4) (Nat.le_of_ble_eq_true rfl)
  rw [lg_entry_eq]
  generalize (lg_sl ([.ref (ad 0 0 0), .int ua, .int ub]) ++ List.replicate (4 - (lg_sl ([.ref (ad 0 0 0), .int ua, .int ub])).length) Slot.unset).toArray = ls at hl ⊢
  have hl : lv_has ls 4 [(0, .ref (ad 0 0 0)), (1, .int ua), (2, .int ub)] := hl
  obtain ⟨hR, hO⟩ := hp
  obtain ⟨⟨hn, hl4, hd2, hT⟩, hsk, hma, hdc, hle, hxb⟩ := id hO
  have y0_46 := hR.1 _ _ _ _ (t0)
  refine lv_aload_n hx hb dX7_oddsAnew_0 rfl (lv_at hl 0 rfl) ?_
  refine lv_iload_n hx hb dX7_oddsAnew_1 rfl (lv_at hl 1 rfl) ?_
  refine lv_iload_n hx hb dX7_oddsAnew_2 rfl (lv_at hl 2 rfl) ?_
  refine mq_xcallq (vx_runV (As := [.int ua, .int ub]) (rest := []) ⟨hx, hb, hml, hown, hts⟩ (c_X7_masteryAt l hfl G A f ad S X S2 Y O T ua ub) (cwV 2 hts gX7_oddsAnew_X7_masteryAt rfl rfl rfl (by decide +kernel) ⟨Nat.le_of_ble_eq_true rfl, Nat.le_of_ble_eq_true rfl⟩) (mq_preV hK hZ hS hA hM (q := (RX7, TX7, 6)) y0_46 rfl (⟨hR, hO⟩) _) rfl rfl hl.1 rfl (lv_room (Nat.le_of_ble_eq_true rfl)) dX7_oddsAnew_3 ⟨Nat.le_of_ble_eq_true rfl, Nat.le_of_ble_eq_true rfl⟩) hS (fun E ce q9 g3 H locs p3 hM hS hce hcv hcl => ?_) (fun r3 g3 H locs p3 hM hS => ?_)
  · obtain ⟨rfl, rfl, q9⟩ := p3
    exact mq_out (List.eq_nil_iff_forall_not_mem.mpr fun x hx => ht9 x hx) hlocks hce hcv hcl hM hS (⟨rfl, ⟨congrArg Prod.fst (spLS_n q9), rfl⟩⟩) (Nat.le_of_ble_eq_true rfl) (Nat.le_of_ble_eq_true rfl)
  refine W.widen (k := 2) (n := 12) (Nat.le_of_ble_eq_true rfl) (Nat.le_of_ble_eq_true rfl) ?_
  obtain ⟨rfl, j, k, hj, hk, rfl, rfl, rfl⟩ := p3
  refine lv_astore_n (lv' := [(3, .ref (ad 7 j k)), (0, .ref (ad 0 0 0)), (1, .int (nI j)), (2, .int (nI k))]) hx hb dX7_oddsAnew_6 rfl hl (by decide) rfl (fun ls hl => ?_)
  refine lv_aload_n hx hb dX7_oddsAnew_7 rfl (lv_at hl 0 rfl) ?_
  refine lv_aload_n hx hb dX7_oddsAnew_8 rfl (lv_at hl 1 rfl) ?_
  refine lv_iload_n hx hb dX7_oddsAnew_9 rfl (lv_at hl 3 rfl) ?_
  refine mq_xcallq (vx_runV (As := [.int (nI k)]) (rest := [.ref (ad 7 j k)]) ⟨hx, hb, hml, hown, hts⟩ (c_X7_skillAt l hfl G A f ad S X S2 Y O T (nI k)) (cwV 1 hts gX7_oddsAnew_X7_skillAt rfl rfl rfl (by decide +kernel) ⟨Nat.le_of_ble_eq_true rfl, Nat.le_of_ble_eq_true rfl⟩) (mq_preV hK hZ hS hA hM (q := (RX7, TX7, 6)) y0_46 rfl (⟨hR, hO⟩) _) rfl rfl hl.1 rfl (lv_room (Nat.le_of_ble_eq_true rfl)) dX7_oddsAnew_10 ⟨Nat.le_of_ble_eq_true rfl, Nat.le_of_ble_eq_true rfl⟩) hS (fun E ce q9 g10 H locs p10 hM hS hce hcv hcl => ?_) (fun r10 g10 H locs p10 hM hS => ?_)
  · exact absurd (vp_in_nI hk (by omega)) p10.2.2
  refine W.widen (k := 3) (n := 18) (Nat.le_of_ble_eq_true rfl) (Nat.le_of_ble_eq_true rfl) ?_
  obtain ⟨rfl, k9, hk9, ek, rfl⟩ := p10
  obtain rfl : k = k9 := (nI_eq (by omega) (by omega)).mp ek
  obtain ⟨m1, m2, m3, m4, m5, m6, m7, m8⟩ := hma j k hj (by omega)
  have y7_43 := hR.1 _ _ _ _ (t7 (j := j) (k := k) hj (by omega))
  have y8_44 := hR.1 _ _ _ _ (t8 (j := j) (k := k) hj (by omega))
  have y4_45 := hR.1 _ _ _ _ (t4 (j := k) hk)
  refine mq_calli (va_runV (As := [.ref (ad 4 k 0)]) (rest := []) ⟨hx, hb, hml, hown, hts⟩ (c_X4_oddsFromAnswers l G A f (ad 7 j k) (ad 4 k 0) (mOd (aM S j k)) (mDu (aM S j k)) (mTo (aM S j k)) (mRo (aM S j k)) (mOp (aM S j k)) (mAn (aM S j k)) (ad 8 j k) (aS S k).1 (aS S k).2.1 (aS S k).2.2.1 (aS S k).2.2.2 (xW X j k)) (cwV 1 hts gX7_oddsAnew_X4_oddsFromAnswers rfl rfl rfl (by decide +kernel) ⟨Nat.le_of_ble_eq_true rfl, Nat.le_of_ble_eq_true rfl⟩) (mq_preV hK hZ hS hA hM (q := (RX4, TX4, 7)) y7_43 rfl (⟨⟨y7_43, y8_44, y4_45⟩, (hsk k hk).1, (hsk k hk).2.1, (hsk k hk).2.2.1, m2, by omega, m6⟩) _) rfl rfl hl.1 rfl (lv_room (Nat.le_of_ble_eq_true rfl)) dX7_oddsAnew_13 ⟨Nat.le_of_ble_eq_true rfl, Nat.le_of_ble_eq_true rfl⟩) hS (fun r13 g13 H locs p13 hM hS => ?_)
  refine W.widen (k := 3) (n := 18) (Nat.le_of_ble_eq_true rfl) (Nat.le_of_ble_eq_true rfl) ?_
  obtain ⟨rfl, rfl⟩ := p13
  refine vx_ret ?_
  exact mq_iret (v := nI (mvs (aS S k).1 (aS S k).2.1 (aS S k).2.2.1 (mTo (aM S j k)) (mAn (aM S j k)))) hx hb hr hlocks hM hS (⟨rfl, (spLS_y hj hk hl4 hn).trans (by rw [m7 hk])⟩) dX7_oddsAnew_16

set_option maxHeartbeats 4000000 in
set_option maxRecDepth 100000 in
theorem c_X7_reviews (l : Launch) (hfl : l.stackTraces = false) (G : mq_G) (A : Nat → Prop) (f : mq_F) (ad : AD) (S : AT) (X : CX) (S2 : AT) (Y : MX) (O : OX) (T : Nat) (ua : Int32) : vx_Met l yX7_reviews wsX7_reviews ({ frames := 8, cells := 1, slots := 6, locals := 141 } : Room) (mq_Pc G A f (WR G f ad S X S2 Y O ∧ cOK S X T) [.ref (ad 0 0 0), .int ua]) (mq_Qi G A (fun r g => f = g ∧ spRev S ua = (0, r))) (mq_X G A (fun E g => f = g ∧ ((spRev S ua).1 = 1 ∧ E = "java/lang/IndexOutOfBoundsException"))) 1 6 A := by
  refine vx_ofW (cc := cX7_reviews) (maxL := 5) (ret := (some .int)) (by decide) rfl ?_
  intro p e s m args below meth c s₁ B hml ht9 hv
  obtain ⟨rfl, ⟨hK, hZ, hM, hA⟩, hp⟩ := hv
  have hx := B.exec
  have hb := B.bytes
  have hr := B.returns
  have hts := atoms_spec (ws := wsX7_reviews) B.pre
  have hown : s.vm.findClass RX7 = some m.cls := findClass_of_methodNamed B.named
  have hlocks := B.notSynchronized
  have hS : va_S A s.heap s.heap [] := va_S.rf
  have hl := lv_entry ([.ref (ad 0 0 0), .int ua]) (n := 5) (Nat.le_of_ble_eq_true rfl)
  rw [lg_entry_eq]
  generalize (lg_sl ([.ref (ad 0 0 0), .int ua]) ++ List.replicate (5 - (lg_sl ([.ref (ad 0 0 0), .int ua])).length) Slot.unset).toArray = ls at hl ⊢
  have hl : lv_has ls 5 [(0, .ref (ad 0 0 0)), (1, .int ua)] := hl
  have w0 := hts (.fieldLink RX7 32 "Tutorlight" "skillCount" "I") (List.mem_of_getElem? (i := 1) rfl)
  have w1 := hts (.fieldLink RX7 80 "Tutorlight$Learner" "masteries" "[LTutorlight$Mastery;") (List.mem_of_getElem? (i := 2) rfl)
  have w2 := hts (.fieldLink RX7 117 "Tutorlight" "day" "I") (List.mem_of_getElem? (i := 3) rfl)
  have nX7 : ∀ w ∈ wsX70, w ∈ wsX7_reviews := fun _ h => List.mem_cons_of_mem _ (List.mem_append_left _ (List.mem_append_left _ (List.mem_append_left _ (List.mem_append_right _ h))))
  have nX3 : ∀ w ∈ wsX30, w ∈ wsX7_reviews := fun _ h => List.mem_cons_of_mem _ (List.mem_append_left _ (List.mem_append_left _ (List.mem_append_right _ h)))
  obtain ⟨hR, hO⟩ := hp
  obtain ⟨⟨hn, hl4, hd2, hT⟩, hsk, hma, hdc, hle, hxb⟩ := id hO
  have y0_50 := hR.1 _ _ _ _ (t0)
  refine lv_aload_n hx hb dX7_reviews_0 rfl (lv_at hl 0 rfl) ?_
  refine lv_iload_n hx hb dX7_reviews_1 rfl (lv_at hl 1 rfl) ?_
  refine mq_xcallq (vx_runV (As := [.int ua]) (rest := []) ⟨hx, hb, hml, hown, hts⟩ (c_X7_learnerAt l hfl G A f ad S X S2 Y O T ua) (cwV 1 hts gX7_reviews_X7_learnerAt rfl rfl rfl (by decide +kernel) ⟨Nat.le_of_ble_eq_true rfl, Nat.le_of_ble_eq_true rfl⟩) (mq_preV hK hZ hS hA hM (q := (RX7, TX7, 6)) y0_50 rfl (⟨hR, hO⟩) _) rfl rfl hl.1 rfl (lv_room (Nat.le_of_ble_eq_true rfl)) dX7_reviews_2 ⟨Nat.le_of_ble_eq_true rfl, Nat.le_of_ble_eq_true rfl⟩) hS (fun E ce q9 g2 H locs p2 hM hS hce hcv hcl => ?_) (fun r2 g2 H locs p2 hM hS => ?_)
  · obtain ⟨rfl, rfl, q9⟩ := p2
    exact mq_out (List.eq_nil_iff_forall_not_mem.mpr fun x hx => ht9 x hx) hlocks hce hcv hcl hM hS (⟨rfl, ⟨congrArg Prod.fst (spL_n q9), rfl⟩⟩) (Nat.le_of_ble_eq_true rfl) (Nat.le_of_ble_eq_true rfl)
  refine W.widen (k := 1) (n := 6) (Nat.le_of_ble_eq_true rfl) (Nat.le_of_ble_eq_true rfl) ?_
  obtain ⟨rfl, j, hj, rfl, rfl⟩ := p2
  refine lv_astore_n (lv' := [(2, .ref (ad 5 j 0)), (0, .ref (ad 0 0 0)), (1, .int (nI j))]) hx hb dX7_reviews_5 rfl hl (by decide) rfl (fun ls hl => ?_)
  have y5_47 := hR.1 _ _ _ _ (t5 (j := j) hj)
  have y6_48 := hR.1 _ _ _ _ (t6 (j := j) hj)
  refine lv_iconst (v := 0) hx hb dX7_reviews_6 (by decide) ?_
  refine lv_istore_n (lv' := [(3, .int 0), (2, .ref (ad 5 j 0)), (0, .ref (ad 0 0 0)), (1, .int (nI j))]) hx hb dX7_reviews_7 rfl hl (by decide) rfl (fun ls hl => ?_)
  refine lv_iconst (v := 0) hx hb dX7_reviews_8 (by decide) ?_
  refine lv_istore (lv' := [(4, .int 0), (3, .int 0), (2, .ref (ad 5 j 0)), (0, .ref (ad 0 0 0)), (1, .int (nI j))]) hx hb dX7_reviews_9 hl (by decide) rfl (fun ls hl => ?_)
  have K11 : ∀ (n9 : Nat) (i cn : Nat), (aN S - i) < n9 → (i ≤ aN S) → (cn = cntB (dueB S j) i) → (cn ≤ i) → ∀ (H : Heap) (locs : List Loc), mq_W G.1 A f H → va_S A s.heap H locs → ∀ (ls : Array Slot), lv_has ls 5 [(0, .ref (ad 0 0 0)), (2, .ref (ad 5 j 0)), (3, .int (nI cn)), (4, .int (nI i))] → W p l e (headSpec wsX7_reviews ({ frames := 8, cells := 1, slots := 6, locals := 141 } : Room)).room s m ([.ref (ad 0 0 0), .int (nI j)] : List Value).toArray below meth c H locs 1 6 (vx_MQ below (mq_Qi G A (fun r g => f = g ∧ spRev S (nI j) = (0, r))) (mq_X G A (fun E g => f = g ∧ ((spRev S (nI j)).1 = 1 ∧ E = "java/lang/IndexOutOfBoundsException"))) ([.ref (ad 0 0 0), .int (nI j)] : List Value).toArray s 1 6 A) (F0 m 11 ls []) := by
    intro n9
    induction n9 with
    | zero => intro i cn hn9; exact absurd hn9 (Nat.not_lt_zero _)
    | succ n9 ih11 =>
      intro i cn hn9 hi hq hc H locs hM hS ls hl
      refine lv_iload hx hb dX7_reviews_11 (lv_at hl 3 rfl) ?_
      refine lv_aload_n hx hb dX7_reviews_13 rfl (lv_at hl 0 rfl) ?_
      refine mq_get (ci := 12) (v := .int (nI (aN S))) (C := RX7) (T := TX7) (N := 6) hx hb hts nX7 hown hK hM y0_50 rfl 3 (by decide) w0 (fun _ h9 => h9) rfl dX7_reviews_14 ?_
      refine lv_icmp_ge (tgt := 46) hx hb dX7_reviews_17 (by decide) (fun c_17 => ?_) (fun c_17 => ?_)
      · replace c_17 : nI (aN S) ≤ nI i := c_17
        rw [nI_leI (by omega) (by omega)] at c_17
        refine lv_iload_n hx hb dX7_reviews_46 rfl (lv_at hl 2 rfl) ?_
        refine vx_ret ?_
        exact mq_iret (v := nI cn) hx hb hr hlocks hM hS (⟨rfl, (spL_y hj hl4).trans (by rw [hq, show i = aN S by omega])⟩) dX7_reviews_47
      · replace c_17 : ¬ nI (aN S) ≤ nI i := c_17
        rw [nI_leI (by omega) (by omega)] at c_17
        obtain ⟨m1, m2, m3, m4, m5, m6, m7, m8⟩ := hma j i hj (by omega)
        have y7_49 := hR.1 _ _ _ _ (t7 (j := j) (k := i) hj (by omega))
        refine lv_aload_n hx hb dX7_reviews_20 rfl (lv_at hl 1 rfl) ?_
        refine mq_get (ci := 8) (v := .ref (ad 6 j 0)) (C := RX3) (T := TX3) (N := 5) hx hb hts nX3 hown hK hM y5_47 rfl 0 (by decide) w1 (fun _ h9 => h9) rfl dX7_reviews_21 ?_
        refine lv_iload hx hb dX7_reviews_24 (lv_at hl 3 rfl) ?_
        refine mq_aald (t0 := 5) (v := .ref (ad 7 j i)) hx hb hK hM rfl y6_48 (vp_in_nI (by omega) (by omega)) (by rw [show (nI i : Int32).toNatClampNeg = i from nI_clamp (by omega)]; exact congrArg va_rf (rf_at (by omega))) dX7_reviews_26 ?_
        refine lv_aload_n hx hb dX7_reviews_27 rfl (lv_at hl 0 rfl) ?_
        refine mq_get (ci := 12) (v := .int (nI (aD S))) (C := RX7) (T := TX7) (N := 6) hx hb hts nX7 hown hK hM y0_50 rfl 5 (by decide) w2 (fun _ h9 => h9) rfl dX7_reviews_28 ?_
        refine mq_calli (va_runV (As := [.int (nI (aD S))]) (rest := []) ⟨hx, hb, hml, hown, hts⟩ (c_X4_isDueBy l G A f (ad 7 j i) (mOd (aM S j i)) (mDu (aM S j i)) (mTo (aM S j i)) (mRo (aM S j i)) (mOp (aM S j i)) (mAn (aM S j i)) (ad 8 j i) (aD S)) (cwV 1 hts gX7_reviews_X4_isDueBy rfl rfl rfl (by decide +kernel) ⟨Nat.le_of_ble_eq_true rfl, Nat.le_of_ble_eq_true rfl⟩) (mq_preV hK hZ hS hA hM (q := (RX4, TX4, 7)) y7_49 rfl (⟨y7_49, by omega, by omega⟩) _) rfl rfl hl.1 rfl (lv_room (Nat.le_of_ble_eq_true rfl)) dX7_reviews_31 ⟨Nat.le_of_ble_eq_true rfl, Nat.le_of_ble_eq_true rfl⟩) hS (fun r31 g31 H locs p31 hM hS => ?_)
        refine W.widen (k := 1) (n := 6) (Nat.le_of_ble_eq_true rfl) (Nat.le_of_ble_eq_true rfl) ?_
        obtain ⟨rfl, rfl⟩ := p31
        refine lv_if_eq (tgt := 40) hx hb dX7_reviews_34 (by decide) (fun c_34 => ?_) (fun c_34 => ?_)
        · replace c_34 : zb (dueB S j i) = 0 := c_34
          rw [zb_0] at c_34
          refine lv_iinc (v := nI (i + 1)) (lv' := [(4, .int (nI (i + 1))), (0, .ref (ad 0 0 0)), (2, .ref (ad 5 j 0)), (3, .int (nI cn))]) hx hb dX7_reviews_40 hl (k := 3) rfl (nI_add _ _) (by decide) rfl (fun ls hl => ?_)
          refine lv_goto (tgt := 11) hx hb dX7_reviews_43 (by decide) ?_
          exact ih11 (i + 1) cn (by omega) (by omega) (by rw [cntB_f c_34, hq]) (by omega) _ _ hM hS _ (lv_sub hl [1, 2, 3, 0] rfl)
        · replace c_34 : ¬ zb (dueB S j i) = 0 := c_34
          rw [zb_n0] at c_34
          refine lv_iinc (v := nI (cn + 1)) (lv' := [(3, .int (nI (cn + 1))), (0, .ref (ad 0 0 0)), (2, .ref (ad 5 j 0)), (4, .int (nI i))]) hx hb dX7_reviews_37 hl (k := 2) rfl (nI_add _ _) (by decide) rfl (fun ls hl => ?_)
          refine lv_iinc (v := nI (i + 1)) (lv' := [(4, .int (nI (i + 1))), (3, .int (nI (cn + 1))), (0, .ref (ad 0 0 0)), (2, .ref (ad 5 j 0))]) hx hb dX7_reviews_40 hl (k := 3) rfl (nI_add _ _) (by decide) rfl (fun ls hl => ?_)
          refine lv_goto (tgt := 11) hx hb dX7_reviews_43 (by decide) ?_
          exact ih11 (i + 1) (cn + 1) (by omega) (by omega) (by rw [cntB_t c_34, hq]) (by omega) _ _ hM hS _ (lv_sub hl [2, 3, 1, 0] rfl)
  exact K11 _ 0 0 (Nat.lt_succ_self _) (Nat.zero_le _) (rfl) (Nat.le_refl _) _ _ hM hS _ (lv_sub hl [3, 2, 1, 0] rfl)

set_option maxHeartbeats 4000000 in
set_option maxRecDepth 100000 in
theorem c_X7_reviewAt (l : Launch) (hfl : l.stackTraces = false) (G : mq_G) (A : Nat → Prop) (f : mq_F) (ad : AD) (S : AT) (X : CX) (S2 : AT) (Y : MX) (O : OX) (T : Nat) (ua ub : Int32) : vx_Met l yX7_reviewAt wsX7_reviewAt ({ frames := 8, cells := 2, slots := 12, locals := 141 } : Room) (mq_Pc G A f (WR G f ad S X S2 Y O ∧ cOK S X T) [.ref (ad 0 0 0), .int ua, .int ub]) (mq_Qi G A (fun r g => f = g ∧ spRevAt S ua ub = (0, r))) (mq_X G A (fun E g => f = g ∧ ((spRevAt S ua ub).1 = 1 ∧ E = "java/lang/IndexOutOfBoundsException" ∨ (spRevAt S ua ub).1 = 2 ∧ E = "java/util/NoSuchElementException"))) 2 12 A := by
  refine vx_ofW (cc := cX7_reviewAt) (maxL := 5) (ret := (some .int)) (by decide) rfl ?_
  intro p e s m args below meth c s₁ B hml ht9 hv
  obtain ⟨rfl, ⟨hK, hZ, hM, hA⟩, hp⟩ := hv
  have hx := B.exec
  have hb := B.bytes
  have hr := B.returns
  have hts := atoms_spec (ws := wsX7_reviewAt) B.pre
  have hown : s.vm.findClass RX7 = some m.cls := findClass_of_methodNamed B.named
  have hlocks := B.notSynchronized
  have hS : va_S A s.heap s.heap [] := va_S.rf
  have hl := lv_entry ([.ref (ad 0 0 0), .int ua, .int ub]) (n := 5) (Nat.le_of_ble_eq_true rfl)
  rw [lg_entry_eq]
  generalize (lg_sl ([.ref (ad 0 0 0), .int ua, .int ub]) ++ List.replicate (5 - (lg_sl ([.ref (ad 0 0 0), .int ua, .int ub])).length) Slot.unset).toArray = ls at hl ⊢
  have hl : lv_has ls 5 [(0, .ref (ad 0 0 0)), (1, .int ua), (2, .int ub)] := hl
  have w0 := hts (.fieldLink RX7 32 "Tutorlight" "skillCount" "I") (List.mem_of_getElem? (i := 3) rfl)
  have w1 := hts (.classLink RX7 129 "java/util/NoSuchElementException") (List.mem_of_getElem? (i := 1) rfl)
  have w2 := hts (.initialized "java/util/NoSuchElementException") (List.mem_of_getElem? (i := 2) rfl)
  have w3 := hts (.fieldLink RX7 80 "Tutorlight$Learner" "masteries" "[LTutorlight$Mastery;") (List.mem_of_getElem? (i := 4) rfl)
  have w4 := hts (.fieldLink RX7 117 "Tutorlight" "day" "I") (List.mem_of_getElem? (i := 5) rfl)
  have nX7 : ∀ w ∈ wsX70, w ∈ wsX7_reviewAt := fun _ h => List.mem_cons_of_mem _ (List.mem_append_left _ (List.mem_append_left _ (List.mem_append_left _ (List.mem_append_left _ (List.mem_append_right _ h)))))
  have nX3 : ∀ w ∈ wsX30, w ∈ wsX7_reviewAt := fun _ h => List.mem_cons_of_mem _ (List.mem_append_left _ (List.mem_append_left _ (List.mem_append_left _ (List.mem_append_right _ h))))
  obtain ⟨hR, hO⟩ := hp
  obtain ⟨⟨hn, hl4, hd2, hT⟩, hsk, hma, hdc, hle, hxb⟩ := id hO
  have y0_54 := hR.1 _ _ _ _ (t0)
  refine lv_aload_n hx hb dX7_reviewAt_0 rfl (lv_at hl 0 rfl) ?_
  refine lv_iload_n hx hb dX7_reviewAt_1 rfl (lv_at hl 1 rfl) ?_
  refine mq_xcallq (vx_runV (As := [.int ua]) (rest := []) ⟨hx, hb, hml, hown, hts⟩ (c_X7_learnerAt l hfl G A f ad S X S2 Y O T ua) (cwV 1 hts gX7_reviewAt_X7_learnerAt rfl rfl rfl (by decide +kernel) ⟨Nat.le_of_ble_eq_true rfl, Nat.le_of_ble_eq_true rfl⟩) (mq_preV hK hZ hS hA hM (q := (RX7, TX7, 6)) y0_54 rfl (⟨hR, hO⟩) _) rfl rfl hl.1 rfl (lv_room (Nat.le_of_ble_eq_true rfl)) dX7_reviewAt_2 ⟨Nat.le_of_ble_eq_true rfl, Nat.le_of_ble_eq_true rfl⟩) hS (fun E ce q9 g2 H locs p2 hM hS hce hcv hcl => ?_) (fun r2 g2 H locs p2 hM hS => ?_)
  · obtain ⟨rfl, rfl, q9⟩ := p2
    exact mq_out (List.eq_nil_iff_forall_not_mem.mpr fun x hx => ht9 x hx) hlocks hce hcv hcl hM hS (⟨rfl, Or.inl (⟨congrArg Prod.fst (spL_n q9), rfl⟩)⟩) (Nat.le_of_ble_eq_true rfl) (Nat.le_of_ble_eq_true rfl)
  refine W.widen (k := 1) (n := 6) (Nat.le_of_ble_eq_true rfl) (Nat.le_of_ble_eq_true rfl) ?_
  obtain ⟨rfl, j, hj, rfl, rfl⟩ := p2
  refine lv_astore_n (lv' := [(3, .ref (ad 5 j 0)), (0, .ref (ad 0 0 0)), (1, .int (nI j)), (2, .int ub)]) hx hb dX7_reviewAt_5 rfl hl (by decide) rfl (fun ls hl => ?_)
  have y5_51 := hR.1 _ _ _ _ (t5 (j := j) hj)
  have y6_52 := hR.1 _ _ _ _ (t6 (j := j) hj)
  refine lv_iconst (v := 0) hx hb dX7_reviewAt_6 (by decide) ?_
  refine lv_istore (lv' := [(4, .int 0), (3, .ref (ad 5 j 0)), (0, .ref (ad 0 0 0)), (1, .int (nI j)), (2, .int ub)]) hx hb dX7_reviewAt_7 hl (by decide) rfl (fun ls hl => ?_)
  have K9 : ∀ (n9 : Nat) (i : Nat), (aN S - i) < n9 → (i ≤ aN S) → (ffd (rvP S j ub) (aN S) 0 = ffd (rvP S j ub) (aN S - i) i) → ∀ (H : Heap) (locs : List Loc), mq_W G.1 A f H → va_S A s.heap H locs → ∀ (ls : Array Slot), lv_has ls 5 [(0, .ref (ad 0 0 0)), (2, .int ub), (3, .ref (ad 5 j 0)), (4, .int (nI i))] → W p l e (headSpec wsX7_reviewAt ({ frames := 8, cells := 2, slots := 12, locals := 141 } : Room)).room s m ([.ref (ad 0 0 0), .int (nI j), .int ub] : List Value).toArray below meth c H locs 1 6 (vx_MQ below (mq_Qi G A (fun r g => f = g ∧ spRevAt S (nI j) ub = (0, r))) (mq_X G A (fun E g => f = g ∧ ((spRevAt S (nI j) ub).1 = 1 ∧ E = "java/lang/IndexOutOfBoundsException" ∨ (spRevAt S (nI j) ub).1 = 2 ∧ E = "java/util/NoSuchElementException"))) ([.ref (ad 0 0 0), .int (nI j), .int ub] : List Value).toArray s 2 12 A) (F0 m 9 ls []) := by
    intro n9
    induction n9 with
    | zero => intro i hn9; exact absurd hn9 (Nat.not_lt_zero _)
    | succ n9 ih9 =>
      intro i hn9 hi hq H locs hM hS ls hl
      refine lv_iload hx hb dX7_reviewAt_9 (lv_at hl 3 rfl) ?_
      refine lv_aload_n hx hb dX7_reviewAt_11 rfl (lv_at hl 0 rfl) ?_
      refine mq_get (ci := 12) (v := .int (nI (aN S))) (C := RX7) (T := TX7) (N := 6) hx hb hts nX7 hown hK hM y0_54 rfl 3 (by decide) w0 (fun _ h9 => h9) rfl dX7_reviewAt_12 ?_
      refine lv_icmp_ge (tgt := 55) hx hb dX7_reviewAt_15 (by decide) (fun c_15 => ?_) (fun c_15 => ?_)
      · replace c_15 : nI (aN S) ≤ nI i := c_15
        rw [nI_leI (by omega) (by omega)] at c_15
        obtain ⟨sa, hsa⟩ := mq_str hZ (own := RX7) (k := 144) (tx := "no such review") (by decide +kernel)
        refine vn_throwS (A := A) (own := RX7) (cls := "java/util/NoSuchElementException") (text := "no such review") (names := ["java/lang/RuntimeException", "java/lang/Exception"]) (ik := 129) (is := 144) (ic := 133) hx hb hfl hown (by decide +kernel) (by decide +kernel) w1 w2 hsa (mq_hat hZ (fun w h => hts w (List.mem_cons_of_mem _ (List.mem_append_left _ (List.mem_append_right _ h)))) (by decide +kernel)) (by decide +kernel) hZ.1.1 hZ.1.2 hS (by rw [hml]; exact hl.1) dX7_reviewAt_55 dX7_reviewAt_58 dX7_reviewAt_59 dX7_reviewAt_61 dX7_reviewAt_64 (fun x hx => (ht9 x hx).elim) (Nat.le_of_ble_eq_true rfl) (Nat.le_of_ble_eq_true rfl) (Nat.le_of_ble_eq_true rfl) (Nat.le_of_ble_eq_true rfl) hlocks (fun t9 hv9 hz9 hq9 => mq_thrown hM hS hz9 hq9 (⟨rfl, Or.inr (⟨congrArg Prod.fst (show spRevAt S (nI j) ub = ((2, 0) : Nat × Int32) from (spL_y hj hl4).trans (by rw [hq, show aN S - i = 0 by omega]; exact if_neg (show ¬ i < aN S by omega))), rfl⟩)⟩)) hS.2.2 (Nat.le_of_ble_eq_true rfl) (Nat.le_of_ble_eq_true rfl)
      · replace c_15 : ¬ nI (aN S) ≤ nI i := c_15
        rw [nI_leI (by omega) (by omega)] at c_15
        obtain ⟨m1, m2, m3, m4, m5, m6, m7, m8⟩ := hma j i hj (by omega)
        have y7_53 := hR.1 _ _ _ _ (t7 (j := j) (k := i) hj (by omega))
        refine lv_aload_n hx hb dX7_reviewAt_18 rfl (lv_at hl 2 rfl) ?_
        refine mq_get (ci := 8) (v := .ref (ad 6 j 0)) (C := RX3) (T := TX3) (N := 5) hx hb hts nX3 hown hK hM y5_51 rfl 0 (by decide) w3 (fun _ h9 => h9) rfl dX7_reviewAt_19 ?_
        refine lv_iload hx hb dX7_reviewAt_22 (lv_at hl 3 rfl) ?_
        refine mq_aald (t0 := 5) (v := .ref (ad 7 j i)) hx hb hK hM rfl y6_52 (vp_in_nI (by omega) (by omega)) (by rw [show (nI i : Int32).toNatClampNeg = i from nI_clamp (by omega)]; exact congrArg va_rf (rf_at (by omega))) dX7_reviewAt_24 ?_
        refine lv_aload_n hx hb dX7_reviewAt_25 rfl (lv_at hl 0 rfl) ?_
        refine mq_get (ci := 12) (v := .int (nI (aD S))) (C := RX7) (T := TX7) (N := 6) hx hb hts nX7 hown hK hM y0_54 rfl 5 (by decide) w4 (fun _ h9 => h9) rfl dX7_reviewAt_26 ?_
        refine mq_calli (va_runV (As := [.int (nI (aD S))]) (rest := []) ⟨hx, hb, hml, hown, hts⟩ (c_X4_isDueBy l G A f (ad 7 j i) (mOd (aM S j i)) (mDu (aM S j i)) (mTo (aM S j i)) (mRo (aM S j i)) (mOp (aM S j i)) (mAn (aM S j i)) (ad 8 j i) (aD S)) (cwV 1 hts gX7_reviewAt_X4_isDueBy rfl rfl rfl (by decide +kernel) ⟨Nat.le_of_ble_eq_true rfl, Nat.le_of_ble_eq_true rfl⟩) (mq_preV hK hZ hS hA hM (q := (RX4, TX4, 7)) y7_53 rfl (⟨y7_53, by omega, by omega⟩) _) rfl rfl hl.1 rfl (lv_room (Nat.le_of_ble_eq_true rfl)) dX7_reviewAt_29 ⟨Nat.le_of_ble_eq_true rfl, Nat.le_of_ble_eq_true rfl⟩) hS (fun r29 g29 H locs p29 hM hS => ?_)
        refine W.widen (k := 1) (n := 6) (Nat.le_of_ble_eq_true rfl) (Nat.le_of_ble_eq_true rfl) ?_
        obtain ⟨rfl, rfl⟩ := p29
        refine lv_if_eq (tgt := 49) hx hb dX7_reviewAt_32 (by decide) (fun c_32 => ?_) (fun c_32 => ?_)
        · replace c_32 : zb (dueB S j i) = 0 := c_32
          rw [zb_0] at c_32
          refine lv_iinc (v := nI (i + 1)) (lv' := [(4, .int (nI (i + 1))), (0, .ref (ad 0 0 0)), (2, .int ub), (3, .ref (ad 5 j 0))]) hx hb dX7_reviewAt_49 hl (k := 3) rfl (nI_add _ _) (by decide) rfl (fun ls hl => ?_)
          refine lv_goto (tgt := 9) hx hb dX7_reviewAt_52 (by decide) ?_
          exact ih9 (i + 1) (by omega) (by omega) (by rw [hq, show aN S - i = aN S - (i + 1) + 1 by omega, ffd_t (by unfold rvP; rw [c_32]; rfl)]) _ _ hM hS _ (lv_sub hl [1, 2, 3, 0] rfl)
        · replace c_32 : ¬ zb (dueB S j i) = 0 := c_32
          rw [zb_n0] at c_32
          refine lv_aload_n hx hb dX7_reviewAt_35 rfl (lv_at hl 0 rfl) ?_
          refine lv_aload_n hx hb dX7_reviewAt_36 rfl (lv_at hl 2 rfl) ?_
          refine lv_iload hx hb dX7_reviewAt_37 (lv_at hl 3 rfl) ?_
          refine mq_calli (va_runV (As := [.ref (ad 5 j 0), .int (nI i)]) (rest := []) ⟨hx, hb, hml, hown, hts⟩ (c_X7_reviewsAheadOf l G A f ad S X S2 Y O T j i) (cwV 2 hts gX7_reviewAt_X7_reviewsAheadOf rfl rfl rfl (by decide +kernel) ⟨Nat.le_of_ble_eq_true rfl, Nat.le_of_ble_eq_true rfl⟩) (mq_preV hK hZ hS hA hM (q := (RX7, TX7, 6)) y0_54 rfl (⟨hR, hO, hj, by omega⟩) _) rfl rfl hl.1 rfl (lv_room (Nat.le_of_ble_eq_true rfl)) dX7_reviewAt_39 ⟨Nat.le_of_ble_eq_true rfl, Nat.le_of_ble_eq_true rfl⟩) hS (fun r39 g39 H locs p39 hM hS => ?_)
          refine W.widen (k := 1) (n := 6) (Nat.le_of_ble_eq_true rfl) (Nat.le_of_ble_eq_true rfl) ?_
          obtain ⟨rfl, rfl⟩ := p39
          refine lv_iload_n hx hb dX7_reviewAt_42 rfl (lv_at hl 1 rfl) ?_
          refine lv_icmp_ne (tgt := 49) hx hb dX7_reviewAt_43 (by decide) (fun c_43 => ?_) (fun c_43 => ?_)
          · refine lv_iinc (v := nI (i + 1)) (lv' := [(4, .int (nI (i + 1))), (0, .ref (ad 0 0 0)), (2, .int ub), (3, .ref (ad 5 j 0))]) hx hb dX7_reviewAt_49 hl (k := 3) rfl (nI_add _ _) (by decide) rfl (fun ls hl => ?_)
            refine lv_goto (tgt := 9) hx hb dX7_reviewAt_52 (by decide) ?_
            exact ih9 (i + 1) (by omega) (by omega) (by rw [hq, show aN S - i = aN S - (i + 1) + 1 by omega, ffd_t (by unfold rvP; rw [c_32, decide_eq_false c_43]; rfl)]) _ _ hM hS _ (lv_sub hl [1, 2, 3, 0] rfl)
          · refine lv_iload hx hb dX7_reviewAt_46 (lv_at hl 3 rfl) ?_
            refine vx_ret ?_
            refine W.widen (k := 2) (n := 12) (Nat.le_of_ble_eq_true rfl) (Nat.le_of_ble_eq_true rfl) ?_
            exact mq_iret (v := nI i) hx hb hr hlocks hM hS (⟨rfl, (spL_y hj hl4).trans (by rw [hq, ffd_f (show rvP S j ub i = false by unfold rvP; rw [c_32, decide_eq_true c_43]; rfl), if_pos (by omega)])⟩) dX7_reviewAt_48
  exact K9 _ 0 (Nat.lt_succ_self _) (Nat.zero_le _) (rfl) _ _ hM hS _ (lv_sub hl [2, 4, 1, 0] rfl)

set_option maxHeartbeats 4000000 in
set_option maxRecDepth 100000 in
theorem c_X7_choose (l : Launch) (hfl : l.stackTraces = false) (G : mq_G) (A : Nat → Prop) (f : mq_F) (ad : AD) (S : AT) (X : CX) (S2 : AT) (Y : MX) (O : OX) (T : Nat) (ua : Int32) : vx_Met l yX7_choose wsX7_choose ({ frames := 8, cells := 2, slots := 12, locals := 141 } : Room) (mq_Pc G A f (WR G f ad S X S2 Y O ∧ cOK S X T) [.ref (ad 0 0 0), .int ua]) (mq_Qi G A (fun r g => f = g ∧ spChs S ua = (0, r))) (mq_X G A (fun E g => f = g ∧ ((spChs S ua).1 = 1 ∧ E = "java/lang/IndexOutOfBoundsException" ∨ (spChs S ua).1 = 2 ∧ E = "java/util/NoSuchElementException"))) 2 12 A := by
  refine vx_ofW (cc := cX7_choose) (maxL := 4) (ret := (some .int)) (by decide) rfl ?_
  intro p e s m args below meth c s₁ B hml ht9 hv
  obtain ⟨rfl, ⟨hK, hZ, hM, hA⟩, hp⟩ := hv
  have hx := B.exec
  have hb := B.bytes
  have hr := B.returns
  have hts := atoms_spec (ws := wsX7_choose) B.pre
  have hown : s.vm.findClass RX7 = some m.cls := findClass_of_methodNamed B.named
  have hlocks := B.notSynchronized
  have hS : va_S A s.heap s.heap [] := va_S.rf
  have hl := lv_entry ([.ref (ad 0 0 0), .int ua]) (n := 4) (Nat.le_of_ble_eq_true rfl)
  rw [lg_entry_eq]
  generalize (lg_sl ([.ref (ad 0 0 0), .int ua]) ++ List.replicate (4 - (lg_sl ([.ref (ad 0 0 0), .int ua])).length) Slot.unset).toArray = ls at hl ⊢
  have hl : lv_has ls 4 [(0, .ref (ad 0 0 0)), (1, .int ua)] := hl
  have w0 := hts (.classLink RX7 129 "java/util/NoSuchElementException") (List.mem_of_getElem? (i := 1) rfl)
  have w1 := hts (.initialized "java/util/NoSuchElementException") (List.mem_of_getElem? (i := 2) rfl)
  obtain ⟨hR, hO⟩ := hp
  obtain ⟨⟨hn, hl4, hd2, hT⟩, hsk, hma, hdc, hle, hxb⟩ := id hO
  have y0_55 := hR.1 _ _ _ _ (t0)
  refine lv_aload_n hx hb dX7_choose_0 rfl (lv_at hl 0 rfl) ?_
  refine lv_iload_n hx hb dX7_choose_1 rfl (lv_at hl 1 rfl) ?_
  refine mq_xcallq (vx_runV (As := [.int ua]) (rest := []) ⟨hx, hb, hml, hown, hts⟩ (c_X7_learnerAt l hfl G A f ad S X S2 Y O T ua) (cwV 1 hts gX7_choose_X7_learnerAt rfl rfl rfl (by decide +kernel) ⟨Nat.le_of_ble_eq_true rfl, Nat.le_of_ble_eq_true rfl⟩) (mq_preV hK hZ hS hA hM (q := (RX7, TX7, 6)) y0_55 rfl (⟨hR, hO⟩) _) rfl rfl hl.1 rfl (lv_room (Nat.le_of_ble_eq_true rfl)) dX7_choose_2 ⟨Nat.le_of_ble_eq_true rfl, Nat.le_of_ble_eq_true rfl⟩) hS (fun E ce q9 g2 H locs p2 hM hS hce hcv hcl => ?_) (fun r2 g2 H locs p2 hM hS => ?_)
  · obtain ⟨rfl, rfl, q9⟩ := p2
    exact mq_out (List.eq_nil_iff_forall_not_mem.mpr fun x hx => ht9 x hx) hlocks hce hcv hcl hM hS (⟨rfl, Or.inl (⟨congrArg Prod.fst (spL_n q9), rfl⟩)⟩) (Nat.le_of_ble_eq_true rfl) (Nat.le_of_ble_eq_true rfl)
  refine W.widen (k := 1) (n := 6) (Nat.le_of_ble_eq_true rfl) (Nat.le_of_ble_eq_true rfl) ?_
  obtain ⟨rfl, j, hj, rfl, rfl⟩ := p2
  refine lv_astore_n (lv' := [(2, .ref (ad 5 j 0)), (0, .ref (ad 0 0 0)), (1, .int (nI j))]) hx hb dX7_choose_5 rfl hl (by decide) rfl (fun ls hl => ?_)
  refine lv_aload_n hx hb dX7_choose_6 rfl (lv_at hl 1 rfl) ?_
  refine lv_aload_n hx hb dX7_choose_7 rfl (lv_at hl 0 rfl) ?_
  refine mq_calli (va_runV (As := [.ref (ad 5 j 0)]) (rest := []) ⟨hx, hb, hml, hown, hts⟩ (c_X7_firstOpenReview l G A f ad S X S2 Y O T j) (cwV 1 hts gX7_choose_X7_firstOpenReview rfl rfl rfl (by decide +kernel) ⟨Nat.le_of_ble_eq_true rfl, Nat.le_of_ble_eq_true rfl⟩) (mq_preV hK hZ hS hA hM (q := (RX7, TX7, 6)) y0_55 rfl (⟨hR, hO, hj⟩) _) rfl rfl hl.1 rfl (lv_room (Nat.le_of_ble_eq_true rfl)) dX7_choose_8 ⟨Nat.le_of_ble_eq_true rfl, Nat.le_of_ble_eq_true rfl⟩) hS (fun r8 g8 H locs p8 hM hS => ?_)
  refine W.widen (k := 1) (n := 6) (Nat.le_of_ble_eq_true rfl) (Nat.le_of_ble_eq_true rfl) ?_
  obtain ⟨rfl, rfl⟩ := p8
  have b8 := frL_le S j (aN S)
  refine lv_istore_n (lv' := [(3, .int (du (frL S j (aN S)))), (2, .ref (ad 5 j 0)), (0, .ref (ad 0 0 0)), (1, .int (nI j))]) hx hb dX7_choose_11 rfl hl (by decide) rfl (fun ls hl => ?_)
  refine lv_iload_n hx hb dX7_choose_12 rfl (lv_at hl 0 rfl) ?_
  refine lv_iconst (v := (-1)) hx hb dX7_choose_13 (by decide) ?_
  refine lv_icmp_ne (tgt := 23) hx hb dX7_choose_14 (by decide) (fun c_14 => ?_) (fun c_14 => ?_)
  · replace c_14 : ¬ du (frL S j (aN S)) = (-1) := c_14
    rw [du_m1 (by omega)] at c_14
    refine lv_iload_n hx hb dX7_choose_23 rfl (lv_at hl 0 rfl) ?_
    refine lv_iconst (v := (-1)) hx hb dX7_choose_24 (by decide) ?_
    refine lv_icmp_ne (tgt := 38) hx hb dX7_choose_25 (by decide) (fun c_25 => ?_) (fun c_25 => ?_)
    · replace c_25 : ¬ du (frL S j (aN S)) = (-1) := c_25
      rw [du_m1 (by omega)] at c_25
      refine lv_iload_n hx hb dX7_choose_38 rfl (lv_at hl 0 rfl) ?_
      refine vx_ret ?_
      refine W.widen (k := 2) (n := 12) (Nat.le_of_ble_eq_true rfl) (Nat.le_of_ble_eq_true rfl) ?_
      exact mq_iret (v := du (frL S j (aN S))) hx hb hr hlocks hM hS (⟨rfl, (spL_y hj hl4).trans (by rw [show chs S j = frL S j (aN S) from if_neg c_14, if_neg c_25, du_nI c_25])⟩) dX7_choose_39
    · replace c_25 : du (frL S j (aN S)) = (-1) := c_25
      rw [du_m1 (by omega)] at c_25
      obtain ⟨sa, hsa⟩ := mq_str hZ (own := RX7) (k := 153) (tx := "nothing to do") (by decide +kernel)
      refine vn_throwS (A := A) (own := RX7) (cls := "java/util/NoSuchElementException") (text := "nothing to do") (names := ["java/lang/RuntimeException", "java/lang/Exception"]) (ik := 129) (is := 153) (ic := 133) hx hb hfl hown (by decide +kernel) (by decide +kernel) w0 w1 hsa (mq_hat hZ (fun w h => hts w (List.mem_cons_of_mem _ (List.mem_append_left _ (List.mem_append_right _ h)))) (by decide +kernel)) (by decide +kernel) hZ.1.1 hZ.1.2 hS (by rw [hml]; exact hl.1) dX7_choose_28 dX7_choose_31 dX7_choose_32 dX7_choose_34 dX7_choose_37 (fun x hx => (ht9 x hx).elim) (Nat.le_of_ble_eq_true rfl) (Nat.le_of_ble_eq_true rfl) (Nat.le_of_ble_eq_true rfl) (Nat.le_of_ble_eq_true rfl) hlocks (fun t9 hv9 hz9 hq9 => mq_thrown hM hS hz9 hq9 (⟨rfl, Or.inr (⟨congrArg Prod.fst (show spChs S (nI j) = ((2, 0) : Nat × Int32) from (spL_y hj hl4).trans (by rw [show chs S j = frL S j (aN S) from if_neg c_14, if_pos c_25])), rfl⟩)⟩)) hS.2.2 (Nat.le_of_ble_eq_true rfl) (Nat.le_of_ble_eq_true rfl)
  · replace c_14 : du (frL S j (aN S)) = (-1) := c_14
    rw [du_m1 (by omega)] at c_14
    refine lv_aload_n hx hb dX7_choose_17 rfl (lv_at hl 2 rfl) ?_
    refine lv_aload_n hx hb dX7_choose_18 rfl (lv_at hl 1 rfl) ?_
    refine mq_calli (va_runV (As := [.ref (ad 5 j 0)]) (rest := []) ⟨hx, hb, hml, hown, hts⟩ (c_X7_bestNewSkill l G A f ad S X S2 Y O T j) (cwV 1 hts gX7_choose_X7_bestNewSkill rfl rfl rfl (by decide +kernel) ⟨Nat.le_of_ble_eq_true rfl, Nat.le_of_ble_eq_true rfl⟩) (mq_preV hK hZ hS hA hM (q := (RX7, TX7, 6)) y0_55 rfl (⟨hR, hO, hj⟩) _) rfl rfl hl.1 rfl (lv_room (Nat.le_of_ble_eq_true rfl)) dX7_choose_19 ⟨Nat.le_of_ble_eq_true rfl, Nat.le_of_ble_eq_true rfl⟩) hS (fun r19 g19 H locs p19 hM hS => ?_)
    refine W.widen (k := 1) (n := 6) (Nat.le_of_ble_eq_true rfl) (Nat.le_of_ble_eq_true rfl) ?_
    obtain ⟨rfl, rfl⟩ := p19
    have b19 := bnL_le S j (aN S)
    refine lv_istore_n (lv' := [(3, .int (du ((bnL S j (aN S)).1))), (2, .ref (ad 5 j 0)), (0, .ref (ad 0 0 0)), (1, .int (nI j))]) hx hb dX7_choose_22 rfl hl (by decide) rfl (fun ls hl => ?_)
    refine lv_iload_n hx hb dX7_choose_23 rfl (lv_at hl 0 rfl) ?_
    refine lv_iconst (v := (-1)) hx hb dX7_choose_24 (by decide) ?_
    refine lv_icmp_ne (tgt := 38) hx hb dX7_choose_25 (by decide) (fun c_25 => ?_) (fun c_25 => ?_)
    · replace c_25 : ¬ du ((bnL S j (aN S)).1) = (-1) := c_25
      rw [du_m1 (by omega)] at c_25
      refine lv_iload_n hx hb dX7_choose_38 rfl (lv_at hl 0 rfl) ?_
      refine vx_ret ?_
      refine W.widen (k := 2) (n := 12) (Nat.le_of_ble_eq_true rfl) (Nat.le_of_ble_eq_true rfl) ?_
      exact mq_iret (v := du ((bnL S j (aN S)).1)) hx hb hr hlocks hM hS (⟨rfl, (spL_y hj hl4).trans (by rw [show chs S j = (bnL S j (aN S)).1 from if_pos c_14, if_neg c_25, du_nI c_25])⟩) dX7_choose_39
    · replace c_25 : du ((bnL S j (aN S)).1) = (-1) := c_25
      rw [du_m1 (by omega)] at c_25
      obtain ⟨sa, hsa⟩ := mq_str hZ (own := RX7) (k := 153) (tx := "nothing to do") (by decide +kernel)
      refine vn_throwS (A := A) (own := RX7) (cls := "java/util/NoSuchElementException") (text := "nothing to do") (names := ["java/lang/RuntimeException", "java/lang/Exception"]) (ik := 129) (is := 153) (ic := 133) hx hb hfl hown (by decide +kernel) (by decide +kernel) w0 w1 hsa (mq_hat hZ (fun w h => hts w (List.mem_cons_of_mem _ (List.mem_append_left _ (List.mem_append_right _ h)))) (by decide +kernel)) (by decide +kernel) hZ.1.1 hZ.1.2 hS (by rw [hml]; exact hl.1) dX7_choose_28 dX7_choose_31 dX7_choose_32 dX7_choose_34 dX7_choose_37 (fun x hx => (ht9 x hx).elim) (Nat.le_of_ble_eq_true rfl) (Nat.le_of_ble_eq_true rfl) (Nat.le_of_ble_eq_true rfl) (Nat.le_of_ble_eq_true rfl) hlocks (fun t9 hv9 hz9 hq9 => mq_thrown hM hS hz9 hq9 (⟨rfl, Or.inr (⟨congrArg Prod.fst (show spChs S (nI j) = ((2, 0) : Nat × Int32) from (spL_y hj hl4).trans (by rw [show chs S j = (bnL S j (aN S)).1 from if_pos c_14, if_pos c_25])), rfl⟩)⟩)) hS.2.2 (Nat.le_of_ble_eq_true rfl) (Nat.le_of_ble_eq_true rfl)
