/-! MASTERIES, LEARNERS, EXERCISES OF THE CLASS -/
theorem mq_ucu {f : mq_F} {a b : Nat} {e e' e'' : va_E} (h : a ≠ b) : mq_up (mq_up (mq_up f a e) b e') a e'' = mq_up (mq_up f b e') a e'' := by
  rw [mq_uc h, mq_uu]
theorem mq_nn {f g : mq_F} {a q : Nat} {e : va_E} (hg : g = mq_up f a e) (h : g q = none) : f q = none ∧ q ≠ a := by
  rw [hg] at h
  by_cases hq : q = a
  · subst hq; rw [mq_up_s] at h; cases h
  · rw [mq_up_n hq] at h; exact ⟨h, hq⟩
/-- a day on which something is due, from 1; 0 : never -/
def du (d : Nat) : Int32 := nI d - 1
theorem du_toInt {d : Nat} (h : d < 2 ^ 30) : (du d).toInt = (d : Int) - 1 := pk_sub_toInt (b := 1) h (by decide)
theorem i32_eqI (a b : Int32) : a = b ↔ a.toInt = b.toInt := ⟨fun h => by rw [h], fun h => Int32.toInt_inj.mp h⟩
theorem du_eq {a b : Nat} (ha : a < 2 ^ 30) (hb : b < 2 ^ 30) : du a = du b ↔ a = b := by
  rw [i32_eqI, du_toInt ha, du_toInt hb]; omega
theorem du_lt {a b : Nat} (ha : a < 2 ^ 30) (hb : b < 2 ^ 30) : du a < du b ↔ a < b := by
  rw [Int32.lt_iff_toInt_lt, du_toInt ha, du_toInt hb]; omega
theorem du_le {a b : Nat} (ha : a < 2 ^ 30) (hb : b < 2 ^ 30) : du a ≤ du b ↔ a ≤ b := by
  rw [Int32.le_iff_toInt_le, du_toInt ha, du_toInt hb]; omega
theorem du_m1 {a : Nat} (ha : a < 2 ^ 30) : du a = (-1) ↔ a = 0 := by
  rw [i32_eqI, du_toInt ha, show ((-1 : Int32)).toInt = -1 from rfl]; omega
theorem du_eqN {a b : Nat} (ha : a < 2 ^ 30) (hb : b < 2 ^ 30) : du a = nI b ↔ a = b + 1 := by
  rw [i32_eqI, du_toInt ha, nI_toInt (by omega)]; omega
theorem du_ltN {a b : Nat} (ha : a < 2 ^ 30) (hb : b < 2 ^ 30) : du a < nI b ↔ a < b + 1 := by
  rw [Int32.lt_iff_toInt_lt, du_toInt ha, nI_toInt (by omega)]; omega
theorem du_leN {a b : Nat} (ha : a < 2 ^ 30) (hb : b < 2 ^ 30) : du a ≤ nI b ↔ a ≤ b + 1 := by
  rw [Int32.le_iff_toInt_le, du_toInt ha, nI_toInt (by omega)]; omega
theorem du_Neq {a b : Nat} (ha : a < 2 ^ 30) (hb : b < 2 ^ 30) : nI a = du b ↔ a + 1 = b := by
  rw [i32_eqI, du_toInt hb, nI_toInt (by omega)]; omega
theorem du_Nlt {a b : Nat} (ha : a < 2 ^ 30) (hb : b < 2 ^ 30) : nI a < du b ↔ a + 1 < b := by
  rw [Int32.lt_iff_toInt_lt, du_toInt hb, nI_toInt (by omega)]; omega
theorem du_Nle {a b : Nat} (ha : a < 2 ^ 30) (hb : b < 2 ^ 30) : nI a ≤ du b ↔ a + 1 ≤ b := by
  rw [Int32.le_iff_toInt_le, du_toInt hb, nI_toInt (by omega)]; omega
theorem du_S (d : Nat) : du (d + 1) = nI d := nI_pred d
/-- bits of longs -/
def gb (x : Int64) (k : Nat) : Bool := x.toBitVec.getLsbD k
def bitN (n : Nat) : Int64 := 1 <<< ((nI (n % 64)).toInt64 &&& 63)
theorem bit_smod : ∀ k, k < 64 → ((nI k).toInt64 &&& 63).toBitVec.smod 64 = BitVec.ofNat 64 k := by decide +kernel
theorem bit_one : ∀ k, k < 64 → ∀ j, j < 64 → ((1 : Int64) <<< ((nI k).toInt64 &&& 63)).toBitVec.getLsbD j = decide (j = k) := by decide +kernel
theorem gb_bitN (n : Nat) {j : Nat} (hj : j < 64) : gb (bitN n) j = decide (j = n % 64) := bit_one _ (Nat.mod_lt _ (by decide)) j hj
theorem gb_read (x : Int64) {k : Nat} (hk : k < 64) : (x >>> ((nI k).toInt64 &&& 63)) &&& 1 = 0 ↔ gb x k = false := by
  have e0 : ((x >>> ((nI k).toInt64 &&& 63)) &&& 1).toBitVec = (x.toBitVec.sshiftRight k) &&& 1#64 := by
    rw [Int64.toBitVec_and, Int64.toBitVec_shiftRight, bit_smod k hk, BitVec.sshiftRight_eq', BitVec.toNat_ofNat, Nat.mod_eq_of_lt (by omega)]
    rfl
  have e1 : ∀ y : BitVec 64, y &&& 1#64 = 0#64 ↔ y.getLsbD 0 = false := by
    intro y
    constructor
    · intro h
      have := congrArg (fun z => z.getLsbD 0) h
      simpa [BitVec.getLsbD_and] using this
    · intro h
      apply BitVec.eq_of_getLsbD_eq
      intro i hi
      rw [BitVec.getLsbD_and]
      by_cases h0 : i = 0
      · subst h0; rw [h]; rfl
      · simp [BitVec.getLsbD_one, h0]
  have e2 : ((x >>> ((nI k).toInt64 &&& 63)) &&& 1 = 0) ↔ ((x >>> ((nI k).toInt64 &&& 63)) &&& 1).toBitVec = 0#64 := ⟨fun h => by rw [h]; rfl, fun h => Int64.toBitVec_inj.mp (h.trans rfl)⟩
  rw [e2, e0, e1, BitVec.getLsbD_sshiftRight]
  unfold gb
  simp [hk]
theorem gb_or (x y : Int64) (j : Nat) : gb (x ||| y) j = (gb x j || gb y j) := by
  unfold gb
  rw [Int64.toBitVec_or, BitVec.getLsbD_or]
theorem gb_andn (x y : Int64) {j : Nat} (hj : j < 64) : gb (x &&& (y ^^^ (-1))) j = (gb x j && !gb y j) := by
  unfold gb
  rw [Int64.toBitVec_and, Int64.toBitVec_xor, BitVec.getLsbD_and, BitVec.getLsbD_xor]
  have : ((-1 : Int64)).toBitVec.getLsbD j = true := by
    rw [show ((-1 : Int64)).toBitVec = BitVec.allOnes 64 from rfl, BitVec.getLsbD_allOnes]; simp [hj]
  rw [this]; cases x.toBitVec.getLsbD j <;> cases y.toBitVec.getLsbD j <;> rfl
/-- the words behind one answer more -/
def wr (fw : Nat → Int64) (n : Nat) (z : Bool) : Nat → Int64 := vp_updL fw (n / 64) (if z then fw (n / 64) ||| bitN n else fw (n / 64) &&& (bitN n ^^^ (-1)))
def tie (fw : Nat → Int64) (an : List Bool) : Prop := ∀ i, i < an.length → gb (fw (i / 64)) (i % 64) = an.getD i false
theorem tie_0 {fw : Nat → Int64} : tie fw [] := fun i h => absurd h (Nat.not_lt_zero i)
theorem wr_gb {fw : Nat → Int64} {n : Nat} {z : Bool} {i : Nat} : gb (wr fw n z (i / 64)) (i % 64) = if i = n then z else gb (fw (i / 64)) (i % 64) := by
  have h6 : i % 64 < 64 := Nat.mod_lt _ (by decide)
  unfold wr
  by_cases hw : i / 64 = n / 64
  · rw [hw, pk_uLs]
    cases z
    · show gb (fw (n / 64) &&& (bitN n ^^^ (-1))) (i % 64) = _
      rw [gb_andn _ _ h6, gb_bitN n h6]
      by_cases hi : i = n
      · subst hi; simp
      · rw [if_neg hi]
        have : ¬ i % 64 = n % 64 := by omega
        simp [this]
    · show gb (fw (n / 64) ||| bitN n) (i % 64) = _
      rw [gb_or, gb_bitN n h6]
      by_cases hi : i = n
      · subst hi; simp
      · rw [if_neg hi]
        have : ¬ i % 64 = n % 64 := by omega
        simp [this]
  · rw [pk_uLn hw, if_neg (by intro h; exact hw (by rw [h]))]
theorem tie_add {fw : Nat → Int64} {an : List Bool} (z : Bool) (h : tie fw an) : tie (wr fw an.length z) (an ++ [z]) := by
  intro i hi
  rw [wr_gb]
  rw [List.length_append] at hi
  simp at hi
  by_cases hn : i = an.length
  · subst hn; simp
  · rw [if_neg hn, h i (by omega)]
    simp [List.getElem?_append_left (show i < an.length by omega)]
def mvs (gu sl ga p : Nat) (an : List Bool) : Nat := an.foldl (fun q z => mv gu sl ga q z) p
theorem mvs_le {gu sl ga : Nat} (hg : ga ≤ 500) : ∀ (an : List Bool) {p : Nat}, p ≤ 1000 → mvs gu sl ga p an ≤ 1000
  | [], p, h => h
  | z :: l, p, h => mvs_le hg l (mv_le h hg)
theorem mvs_snoc {gu sl ga p : Nat} {an : List Bool} {z : Bool} : mvs gu sl ga p (an ++ [z]) = mv gu sl ga (mvs gu sl ga p an) z := by
  unfold mvs; rw [List.foldl_append]; rfl
theorem take_S {an : List Bool} {i : Nat} (h : i < an.length) : an.take (i + 1) = an.take i ++ [an.getD i false] := by
  rw [List.take_succ]; simp [h]
abbrev cMa (odds cnt dd told row : Nat) (op : Bool) (w : Nat) : va_E := .inr (9, [.int (nI odds), .int (nI cnt), .int (du dd), .int (zb op), .int (nI told), .int (nI row), .ref w])
abbrev cWo (G : mq_G) (fw : Nat → Int64) : va_E := .inl (G.2 1, 8, .inr (.inl fw))
abbrev cIn (G : mq_G) (n : Nat) (fn : Nat → Int32) : va_E := .inl (G.2 0, n, .inl fn)
abbrev cRf (c : ClassId) (n : Nat) (fn : Nat → Option Nat) : va_E := .inl (c, n, .inr (.inr (.inr (.inr fn))))
theorem nI_min {a b : Nat} (ha : a < 2 ^ 31) (hb : b < 2 ^ 31) : (if nI b < nI a then nI b else nI a) = nI (min a b) := by
  by_cases h : b < a
  · rw [if_pos ((nI_ltI hb ha).mpr h), Nat.min_eq_right (by omega)]
  · rw [if_neg (fun q => h ((nI_ltI hb ha).mp q)), Nat.min_eq_left (by omega)]
theorem nI_max {a b : Nat} (ha : a < 2 ^ 31) (hb : b < 2 ^ 31) : (if nI a < nI b then nI b else nI a) = nI (max a b) := by
  by_cases h : a < b
  · rw [if_pos ((nI_ltI ha hb).mpr h), Nat.max_eq_right (by omega)]
  · rw [if_neg (fun q => h ((nI_ltI ha hb).mp q)), Nat.max_eq_left (by omega)]
/-- the JDK's count of bits -/
def j_s (x : Int32) (k : Int32) : Int32 := (x.toUInt32 >>> (k.toUInt32 &&& Int32.toUInt32 31)).toInt32
def j_bc (k : Int32) : Int32 :=
  let x8 := k - (j_s k 1 &&& 1431655765)
  let x22 := (x8 &&& 858993459) + (j_s x8 2 &&& 858993459)
  let x32 := (x22 + j_s x22 4) &&& 252645135
  let x39 := x32 + j_s x32 8
  let x47 := x39 + j_s x39 16
  x47 &&& 63
/-- the bits of a set of rules -/
def pcn (k : Nat) : Nat := k % 2 + k / 2 % 2 + k / 4 % 2 + k / 8 % 2 + k / 16 % 2
theorem j_bc_ok : ∀ k, k < 32 → j_bc (nI k) = nI (pcn k) := by decide +kernel
/-- days to wait behind so many right answers in a row -/
def dw (row : Nat) : Nat := if row = 0 then 1 else 2 ^ min (row - 1) 4
theorem dw_shl : ∀ m, m < 5 → (1 : Int32) <<< (nI m &&& 31) = nI (2 ^ m) := by decide +kernel
theorem dw_le (row : Nat) : 1 ≤ dw row ∧ dw row ≤ 16 := by
  unfold dw
  split
  · omega
  · have : min (row - 1) 4 ≤ 4 := Nat.min_le_right _ _
    exact ⟨Nat.one_le_two_pow, Nat.le_trans (Nat.pow_le_pow_right (by decide) this) (by decide)⟩

set_option maxHeartbeats 4000000 in
set_option maxRecDepth 100000 in
theorem c_J6_bitCount_0f7a4 (l : Launch) (G : mq_G) (A : Nat → Prop) (f : mq_F) (k : Int32) : Met l yJ6_bitCount_0f7a4 wsJ6_bitCount_0f7a4 ({ frames := 0, cells := 0, slots := 0, locals := 0 } : Room) (mq_Pc G A f (True) [.int k]) (mq_Qi G A (fun r g => f = g ∧ r = j_bc k)) 0 0 A := by
  refine Met.ofW (cc := cJ6_bitCount_0f7a4) (maxL := 1) (ret := (some .int)) (by decide) rfl ?_
  intro p e s m args below meth c s₁ B hml hv
  obtain ⟨rfl, ⟨hK, hZ, hM, hA⟩, hp⟩ := hv
  have hx := B.exec
  have hb := B.bytes
  have hr := B.returns
  have hts := atoms_spec (ws := wsJ6_bitCount_0f7a4) B.pre
  have hown : s.vm.findClass RJ6 = some m.cls := findClass_of_methodNamed B.named
  have hlocks := B.notSynchronized
  have hS : va_S A s.heap s.heap [] := va_S.rf
  have hl := lv_entry ([.int k]) (n := 1) (Nat.le_of_ble_eq_true rfl)
  rw [lg_entry_eq]
  generalize (lg_sl ([.int k]) ++ List.replicate (1 - (lg_sl ([.int k])).length) Slot.unset).toArray = ls at hl ⊢
  have hl : lv_has ls 1 [(0, .int k)] := hl
  have w0 := hts (.constant RJ6 265 (1431655765)) (List.mem_of_getElem? (i := 1) rfl)
  have w1 := hts (.constant RJ6 266 (858993459)) (List.mem_of_getElem? (i := 2) rfl)
  have w2 := hts (.constant RJ6 267 (252645135)) (List.mem_of_getElem? (i := 3) rfl)
  refine lv_iload_n hx hb dJ6_bitCount_0f7a4_0 rfl (lv_at hl 0 rfl) ?_
  refine lv_iload_n hx hb dJ6_bitCount_0f7a4_1 rfl (lv_at hl 0 rfl) ?_
  refine lv_iconst (v := 1) hx hb dJ6_bitCount_0f7a4_2 (by decide) ?_
  refine lv_iushr hx hb dJ6_bitCount_0f7a4_3 rfl ?_
  refine lv_ldcw hx hb hown w0 dJ6_bitCount_0f7a4_4 ?_
  refine lv_iand hx hb dJ6_bitCount_0f7a4_7 ?_
  refine lv_isub hx hb dJ6_bitCount_0f7a4_8 ?_
  refine lv_topi (fun x8 e_x8 => ?_)
  refine lv_istore_n (lv' := [(0, .int x8)]) hx hb dJ6_bitCount_0f7a4_9 rfl hl (by decide) rfl (fun ls hl => ?_)
  refine lv_iload_n hx hb dJ6_bitCount_0f7a4_10 rfl (lv_at hl 0 rfl) ?_
  refine lv_ldcw hx hb hown w1 dJ6_bitCount_0f7a4_11 ?_
  refine lv_iand hx hb dJ6_bitCount_0f7a4_14 ?_
  refine lv_iload_n hx hb dJ6_bitCount_0f7a4_15 rfl (lv_at hl 0 rfl) ?_
  refine lv_iconst (v := 2) hx hb dJ6_bitCount_0f7a4_16 (by decide) ?_
  refine lv_iushr hx hb dJ6_bitCount_0f7a4_17 rfl ?_
  refine lv_ldcw hx hb hown w1 dJ6_bitCount_0f7a4_18 ?_
  refine lv_iand hx hb dJ6_bitCount_0f7a4_21 ?_
  refine lv_iadd hx hb dJ6_bitCount_0f7a4_22 ?_
  refine lv_topi (fun x22 e_x22 => ?_)
  refine lv_istore_n (lv' := [(0, .int x22)]) hx hb dJ6_bitCount_0f7a4_23 rfl hl (by decide) rfl (fun ls hl => ?_)
  refine lv_iload_n hx hb dJ6_bitCount_0f7a4_24 rfl (lv_at hl 0 rfl) ?_
  refine lv_iload_n hx hb dJ6_bitCount_0f7a4_25 rfl (lv_at hl 0 rfl) ?_
  refine lv_iconst (v := 4) hx hb dJ6_bitCount_0f7a4_26 (by decide) ?_
  refine lv_iushr hx hb dJ6_bitCount_0f7a4_27 rfl ?_
  refine lv_iadd hx hb dJ6_bitCount_0f7a4_28 ?_
  refine lv_ldcw hx hb hown w2 dJ6_bitCount_0f7a4_29 ?_
  refine lv_iand hx hb dJ6_bitCount_0f7a4_32 ?_
  refine lv_topi (fun x32 e_x32 => ?_)
  refine lv_istore_n (lv' := [(0, .int x32)]) hx hb dJ6_bitCount_0f7a4_33 rfl hl (by decide) rfl (fun ls hl => ?_)
  refine lv_iload_n hx hb dJ6_bitCount_0f7a4_34 rfl (lv_at hl 0 rfl) ?_
  refine lv_iload_n hx hb dJ6_bitCount_0f7a4_35 rfl (lv_at hl 0 rfl) ?_
  refine lv_bipush (v := 8) hx hb dJ6_bitCount_0f7a4_36 (by decide) ?_
  refine lv_iushr hx hb dJ6_bitCount_0f7a4_38 rfl ?_
  refine lv_iadd hx hb dJ6_bitCount_0f7a4_39 ?_
  refine lv_topi (fun x39 e_x39 => ?_)
  refine lv_istore_n (lv' := [(0, .int x39)]) hx hb dJ6_bitCount_0f7a4_40 rfl hl (by decide) rfl (fun ls hl => ?_)
  refine lv_iload_n hx hb dJ6_bitCount_0f7a4_41 rfl (lv_at hl 0 rfl) ?_
  refine lv_iload_n hx hb dJ6_bitCount_0f7a4_42 rfl (lv_at hl 0 rfl) ?_
  refine lv_bipush (v := 16) hx hb dJ6_bitCount_0f7a4_43 (by decide) ?_
  refine lv_iushr hx hb dJ6_bitCount_0f7a4_45 rfl ?_
  refine lv_iadd hx hb dJ6_bitCount_0f7a4_46 ?_
  refine lv_topi (fun x47 e_x47 => ?_)
  refine lv_istore_n (lv' := [(0, .int x47)]) hx hb dJ6_bitCount_0f7a4_47 rfl hl (by decide) rfl (fun ls hl => ?_)
  refine lv_iload_n hx hb dJ6_bitCount_0f7a4_48 rfl (lv_at hl 0 rfl) ?_
  refine lv_bipush (v := 63) hx hb dJ6_bitCount_0f7a4_49 (by decide) ?_
  refine lv_iand hx hb dJ6_bitCount_0f7a4_51 ?_
  refine lv_topi (fun x51 e_x51 => ?_)
  exact mq_iret (v := x51) hx hb hr hlocks hM hS (⟨rfl, by subst e_x8; subst e_x22; subst e_x32; subst e_x39; subst e_x47; subst e_x51; rfl⟩) dJ6_bitCount_0f7a4_52

set_option maxHeartbeats 4000000 in
set_option maxRecDepth 100000 in
theorem c_X4_init (l : Launch) (G : mq_G) (A : Nat → Prop) (f : mq_F) (x : Nat) : Met l yX4_init wsX4_init ({ frames := 1, cells := 1, slots := 8, locals := 24 } : Room) (mq_Pc G A f (f x = some (.inr (9, [.int 0, .int 0, .int 0, .int 0, .int 0, .int 0, .null]))) [.ref x]) (mq_Qv G A (fun g => ∃ q, f q = none ∧ q ≠ x ∧ g = mq_up (mq_up f q (cWo G (fun _ => 0))) x (cMa 200 0 0 200 0 false q))) 1 8 A := by
  refine Met.ofW (cc := cX4_init) (maxL := 1) (ret := none) (by decide) rfl ?_
  intro p e s m args below meth c s₁ B hml hv
  obtain ⟨rfl, ⟨hK, hZ, hM, hA⟩, hp⟩ := hv
  have hx := B.exec
  have hb := B.bytes
  have hr := B.returns
  have hts := atoms_spec (ws := wsX4_init) B.pre
  have hown : s.vm.findClass RX4 = some m.cls := findClass_of_methodNamed B.named
  have hlocks := B.notSynchronized
  have hin : meth.name = "<init>" := (name_of_methodNamed B.named B.method).1
  have hS : va_S A s.heap s.heap [] := va_S.rf
  have hl := lv_entry ([.ref x]) (n := 1) (Nat.le_of_ble_eq_true rfl)
  rw [lg_entry_eq]
  generalize (lg_sl ([.ref x]) ++ List.replicate (1 - (lg_sl ([.ref x])).length) Slot.unset).toArray = ls at hl ⊢
  have hl : lv_has ls 1 [(0, .ref x)] := hl
  have w0 := hts (.methodLink RX4 3 objectInit) (List.mem_of_getElem? (i := 1) rfl)
  have w1 := hts (.instanceMethod objectInit) (List.mem_of_getElem? (i := 2) rfl)
  have w2 := hts (.code objectInit ⟨#[0xb1]⟩ 1 none) (List.mem_of_getElem? (i := 3) rfl)
  have w3 := hts (.fieldLink RX4 9 "Tutorlight$Mastery" "odds" "I") (List.mem_of_getElem? (i := 4) rfl)
  have w4 := hts (.fieldLink RX4 15 "Tutorlight$Mastery" "dueDay" "I") (List.mem_of_getElem? (i := 5) rfl)
  have w5 := hts (.fieldLink RX4 18 "Tutorlight$Mastery" "toldOdds" "I") (List.mem_of_getElem? (i := 6) rfl)
  have w6 := hts (.arrayClass .long) (List.mem_of_getElem? (i := 7) rfl)
  have w7 := hts (.fieldLink RX4 21 "Tutorlight$Mastery" "rightAnswers" "[J") (List.mem_of_getElem? (i := 8) rfl)
  have nX4 : ∀ w ∈ wsX40, w ∈ wsX4_init := fun _ h => List.mem_cons_of_mem _ (List.mem_append_right _ h)
  refine lv_aload_n hx hb dX4_init_0 rfl (lv_at hl 0 rfl) ?_
  refine W.objInit hx hb hown w0 w1 w2 rfl (by rw [hml]; exact hl.1) rfl dX4_init_1 (Nat.le_of_ble_eq_true rfl) (Nat.le_of_ble_eq_true rfl) ?_
  refine W.eq (g2 := F0 m 4 ls []) rfl ?_
  refine lv_aload_n hx hb dX4_init_4 rfl (lv_at hl 0 rfl) ?_
  refine lv_sipush (v := 200) hx hb dX4_init_5 (by decide) ?_
  refine mq_put (ci := 9) (v := .int 200) (ty := .int) (C := RX4) (T := TX4) (N := 7) (fs' := [.int 200, .int 0, .int 0, .int 0, .int 0, .int 0, .null]) hx hb hts nX4 tyX4 tyX4_ok nmX4 hown hK hM hS hp rfl 0 (by decide) w3 (fun _ h9 => h9) rfl (by decide +kernel) rfl rfl (Nat.le_of_ble_eq_true rfl) dX4_init_8 rfl (fun f_1 H locs e_2 hM hS => ?_)
  have h_3 : f_1 x = some (.inr (9, [.int 200, .int 0, .int 0, .int 0, .int 0, .int 0, .null])) := mq_s e_2
  refine lv_aload_n hx hb dX4_init_11 rfl (lv_at hl 0 rfl) ?_
  refine lv_iconst (v := (-1)) hx hb dX4_init_12 (by decide) ?_
  refine mq_put (ci := 9) (v := .int (-1)) (ty := .int) (C := RX4) (T := TX4) (N := 7) (fs' := [.int 200, .int 0, .int (-1), .int 0, .int 0, .int 0, .null]) hx hb hts nX4 tyX4 tyX4_ok nmX4 hown hK hM hS h_3 rfl 2 (by decide) w4 (fun _ h9 => h9) rfl (by decide +kernel) rfl rfl (Nat.le_of_ble_eq_true rfl) dX4_init_13 rfl (fun f_4 H locs e_5 hM hS => ?_)
  have h_6 : f_4 x = some (.inr (9, [.int 200, .int 0, .int (-1), .int 0, .int 0, .int 0, .null])) := mq_s e_5
  refine lv_aload_n hx hb dX4_init_16 rfl (lv_at hl 0 rfl) ?_
  refine lv_sipush (v := 200) hx hb dX4_init_17 (by decide) ?_
  refine mq_put (ci := 9) (v := .int 200) (ty := .int) (C := RX4) (T := TX4) (N := 7) (fs' := [.int 200, .int 0, .int (-1), .int 0, .int 200, .int 0, .null]) hx hb hts nX4 tyX4 tyX4_ok nmX4 hown hK hM hS h_6 rfl 4 (by decide) w5 (fun _ h9 => h9) rfl (by decide +kernel) rfl rfl (Nat.le_of_ble_eq_true rfl) dX4_init_20 rfl (fun f_7 H locs e_8 hM hS => ?_)
  have h_9 : f_7 x = some (.inr (9, [.int 200, .int 0, .int (-1), .int 0, .int 200, .int 0, .null])) := mq_s e_8
  refine lv_aload_n hx hb dX4_init_23 rfl (lv_at hl 0 rfl) ?_
  refine lv_bipush (v := 8) hx hb dX4_init_24 (by decide) ?_
  refine mq_newJ (N' := 8) hx hb w6 hK hM hS hA (by decide) (rfl) (Nat.le_of_ble_eq_true rfl) (Nat.le_of_ble_eq_true rfl) (Nat.le_of_ble_eq_true rfl) dX4_init_26 (fun q26 f_10 H hq26 e_11 hM hS => ?_)
  refine W.widen (k := 1) (n := 8) (Nat.le_of_ble_eq_true rfl) (Nat.le_of_ble_eq_true rfl) ?_
  have h_12 : f_10 x = some (.inr (9, [.int 200, .int 0, .int (-1), .int 0, .int 200, .int 0, .null])) := mq_n e_11 h_9 (mq_neN h_9 hq26)
  have h_13 : f_10 q26 = some (.inl (G.2 1, 8, .inr (.inl (fun _ => 0)))) := mq_s e_11
  refine mq_putF (ci := 9) (v := .ref q26) (ty := .array (.long)) (C := RX4) (T := TX4) (N := 7) (fs' := [.int 200, .int 0, .int (-1), .int 0, .int 200, .int 0, .ref q26]) hx hb hts nX4 tyX4 tyX4_ok nmX4 hown hK hM hS h_12 rfl 6 (by decide) w7 (fun _ h9 => h9) rfl hin rfl (by decide +kernel) rfl rfl (Nat.le_of_ble_eq_true rfl) dX4_init_28 rfl (fun f_14 H locs e_15 hM hS => ?_)
  have h_16 : f_14 q26 = some (.inl (G.2 1, 8, .inr (.inl (fun _ => 0)))) := mq_n e_15 h_13 (Ne.symm (mq_neN h_9 hq26))
  have h_17 : f_14 x = some (.inr (9, [.int 200, .int 0, .int (-1), .int 0, .int 200, .int 0, .ref q26])) := mq_s e_15
  exact mq_vret hx hb hr hlocks hM hS (by have k1 := mq_nn e_8 hq26; have k2 := mq_nn e_5 k1.1; have k3 := mq_nn e_2 k2.1; exact ⟨q26, k3.1, k3.2, by rw [e_15, e_11, e_8, e_5, e_2]; simp only [mq_uu]; exact mq_ucu k3.2.symm⟩) dX4_init_31

set_option maxHeartbeats 4000000 in
set_option maxRecDepth 100000 in
theorem c_X4_tellOdds (l : Launch) (G : mq_G) (A : Nat → Prop) (f : mq_F) (x k : Nat) (odds dd told row : Nat) (op : Bool) (an : List Bool) (w : Nat) : Met l yX4_tellOdds wsX4_tellOdds ({ frames := 0, cells := 0, slots := 0, locals := 0 } : Room) (mq_Pc G A f (f x = some (cMa odds an.length dd told row op w)) [.ref x, .int (nI k)]) (mq_Qv G A (fun g => g = mq_up f x (cMa k 0 dd k row op w))) 0 0 A := by
  refine Met.ofW (cc := cX4_tellOdds) (maxL := 2) (ret := none) (by decide) rfl ?_
  intro p e s m args below meth c s₁ B hml hv
  obtain ⟨rfl, ⟨hK, hZ, hM, hA⟩, hp⟩ := hv
  have hx := B.exec
  have hb := B.bytes
  have hr := B.returns
  have hts := atoms_spec (ws := wsX4_tellOdds) B.pre
  have hown : s.vm.findClass RX4 = some m.cls := findClass_of_methodNamed B.named
  have hlocks := B.notSynchronized
  have hS : va_S A s.heap s.heap [] := va_S.rf
  have hl := lv_entry ([.ref x, .int (nI k)]) (n := 2) (Nat.le_of_ble_eq_true rfl)
  rw [lg_entry_eq]
  generalize (lg_sl ([.ref x, .int (nI k)]) ++ List.replicate (2 - (lg_sl ([.ref x, .int (nI k)])).length) Slot.unset).toArray = ls at hl ⊢
  have hl : lv_has ls 2 [(0, .ref x), (1, .int (nI k))] := hl
  have w0 := hts (.fieldLink RX4 9 "Tutorlight$Mastery" "odds" "I") (List.mem_of_getElem? (i := 1) rfl)
  have w1 := hts (.fieldLink RX4 18 "Tutorlight$Mastery" "toldOdds" "I") (List.mem_of_getElem? (i := 2) rfl)
  have w2 := hts (.fieldLink RX4 25 "Tutorlight$Mastery" "answerCount" "I") (List.mem_of_getElem? (i := 3) rfl)
  have nX4 : ∀ w ∈ wsX40, w ∈ wsX4_tellOdds := fun _ h => List.mem_cons_of_mem _ (List.mem_append_right _ h)
  refine lv_aload_n hx hb dX4_tellOdds_0 rfl (lv_at hl 0 rfl) ?_
  refine lv_iload_n hx hb dX4_tellOdds_1 rfl (lv_at hl 1 rfl) ?_
  refine mq_put (ci := 9) (v := .int (nI k)) (ty := .int) (C := RX4) (T := TX4) (N := 7) (fs' := [.int (nI k), .int (nI an.length), .int (du dd), .int (zb op), .int (nI told), .int (nI row), .ref w]) hx hb hts nX4 tyX4 tyX4_ok nmX4 hown hK hM hS hp rfl 0 (by decide) w0 (fun _ h9 => h9) rfl (by decide +kernel) rfl rfl (Nat.le_of_ble_eq_true rfl) dX4_tellOdds_2 rfl (fun f_1 H locs e_2 hM hS => ?_)
  have h_3 : f_1 x = some (.inr (9, [.int (nI k), .int (nI an.length), .int (du dd), .int (zb op), .int (nI told), .int (nI row), .ref w])) := mq_s e_2
  refine lv_aload_n hx hb dX4_tellOdds_5 rfl (lv_at hl 0 rfl) ?_
  refine lv_iload_n hx hb dX4_tellOdds_6 rfl (lv_at hl 1 rfl) ?_
  refine mq_put (ci := 9) (v := .int (nI k)) (ty := .int) (C := RX4) (T := TX4) (N := 7) (fs' := [.int (nI k), .int (nI an.length), .int (du dd), .int (zb op), .int (nI k), .int (nI row), .ref w]) hx hb hts nX4 tyX4 tyX4_ok nmX4 hown hK hM hS h_3 rfl 4 (by decide) w1 (fun _ h9 => h9) rfl (by decide +kernel) rfl rfl (Nat.le_of_ble_eq_true rfl) dX4_tellOdds_7 rfl (fun f_4 H locs e_5 hM hS => ?_)
  have h_6 : f_4 x = some (.inr (9, [.int (nI k), .int (nI an.length), .int (du dd), .int (zb op), .int (nI k), .int (nI row), .ref w])) := mq_s e_5
  refine lv_aload_n hx hb dX4_tellOdds_10 rfl (lv_at hl 0 rfl) ?_
  refine lv_iconst (v := 0) hx hb dX4_tellOdds_11 (by decide) ?_
  refine mq_put (ci := 9) (v := .int 0) (ty := .int) (C := RX4) (T := TX4) (N := 7) (fs' := [.int (nI k), .int 0, .int (du dd), .int (zb op), .int (nI k), .int (nI row), .ref w]) hx hb hts nX4 tyX4 tyX4_ok nmX4 hown hK hM hS h_6 rfl 1 (by decide) w2 (fun _ h9 => h9) rfl (by decide +kernel) rfl rfl (Nat.le_of_ble_eq_true rfl) dX4_tellOdds_12 rfl (fun f_7 H locs e_8 hM hS => ?_)
  have h_9 : f_7 x = some (.inr (9, [.int (nI k), .int 0, .int (du dd), .int (zb op), .int (nI k), .int (nI row), .ref w])) := mq_s e_8
  exact mq_vret hx hb hr hlocks hM hS (by rw [e_8, e_5, e_2]; (try simp only [mq_uu]); (try rfl)) dX4_tellOdds_15

set_option maxHeartbeats 4000000 in
set_option maxRecDepth 100000 in
theorem c_X4_noteAnswer (l : Launch) (G : mq_G) (A : Nat → Prop) (f : mq_F) (x y : Nat) (odds dd told row : Nat) (op : Bool) (an : List Bool) (w : Nat) (gu sl ga mm : Nat) (fw : Nat → Int64) (z : Bool) : Met l yX4_noteAnswer wsX4_noteAnswer ({ frames := 1, cells := 0, slots := 0, locals := 26 } : Room) (mq_Pc G A f ((f x = some (cMa odds an.length dd told row op w) ∧ f w = some (cWo G fw) ∧ f y = some (cSk gu sl ga mm)) ∧ gu ≤ 500 ∧ sl ≤ 500 ∧ ga ≤ 500 ∧ odds ≤ 1000 ∧ an.length < 512) [.ref x, .ref y, .int (zb z)]) (mq_Qv G A (fun g => g = mq_up (mq_up f w (cWo G (wr fw an.length z))) x (cMa (mv gu sl ga odds z) (an.length + 1) dd told (if z then row + 1 else 0) op w))) 0 0 A := by
  refine Met.ofW (cc := cX4_noteAnswer) (maxL := 6) (ret := none) (by decide) rfl ?_
  intro p e s m args below meth c s₁ B hml hv
  obtain ⟨rfl, ⟨hK, hZ, hM, hA⟩, hp⟩ := hv
  have hx := B.exec
  have hb := B.bytes
  have hr := B.returns
  have hts := atoms_spec (ws := wsX4_noteAnswer) B.pre
  have hown : s.vm.findClass RX4 = some m.cls := findClass_of_methodNamed B.named
  have hlocks := B.notSynchronized
  have hS : va_S A s.heap s.heap [] := va_S.rf
  have hl := lv_entry ([.ref x, .ref y, .int (zb z)]) (n := 6) (Nat.le_of_ble_eq_true rfl)
  rw [lg_entry_eq]
  generalize (lg_sl ([.ref x, .ref y, .int (zb z)]) ++ List.replicate (6 - (lg_sl ([.ref x, .ref y, .int (zb z)])).length) Slot.unset).toArray = ls at hl ⊢
  have hl : lv_has ls 6 [(0, .ref x), (1, .ref y), (2, .int (zb z))] := hl
  have w0 := hts (.fieldLink RX4 25 "Tutorlight$Mastery" "answerCount" "I") (List.mem_of_getElem? (i := 1) rfl)
  have w1 := hts (.fieldLink RX4 21 "Tutorlight$Mastery" "rightAnswers" "[J") (List.mem_of_getElem? (i := 2) rfl)
  have w2 := hts (.constantLong RX4 28 (-1)) (List.mem_of_getElem? (i := 3) rfl)
  have w3 := hts (.fieldLink RX4 9 "Tutorlight$Mastery" "odds" "I") (List.mem_of_getElem? (i := 4) rfl)
  have w4 := hts (.fieldLink RX4 36 "Tutorlight$Mastery" "rightInRow" "I") (List.mem_of_getElem? (i := 5) rfl)
  have nX4 : ∀ w ∈ wsX40, w ∈ wsX4_noteAnswer := fun _ h => List.mem_cons_of_mem _ (List.mem_append_left _ (List.mem_append_left _ (List.mem_append_left _ (List.mem_append_right _ h))))
  obtain ⟨⟨h0, h1, h2⟩, hgu, hsl, hga, ho, hn⟩ := hp
  refine lv_aload_n hx hb dX4_noteAnswer_0 rfl (lv_at hl 0 rfl) ?_
  refine mq_get (ci := 9) (v := .int (nI an.length)) (C := RX4) (T := TX4) (N := 7) hx hb hts nX4 hown hK hM h0 rfl 1 (by decide) w0 (fun _ h9 => h9) rfl dX4_noteAnswer_1 ?_
  refine lv_if_lt (tgt := 17) hx hb dX4_noteAnswer_4 (by decide) (fun c_4 => absurd c_4 (nI_pos (by omega))) (fun c_4 => ?_)
  refine lv_aload_n hx hb dX4_noteAnswer_7 rfl (lv_at hl 0 rfl) ?_
  refine mq_get (ci := 9) (v := .int (nI an.length)) (C := RX4) (T := TX4) (N := 7) hx hb hts nX4 hown hK hM h0 rfl 1 (by decide) w0 (fun _ h9 => h9) rfl dX4_noteAnswer_8 ?_
  refine lv_sipush (v := 512) hx hb dX4_noteAnswer_11 (by decide) ?_
  refine lv_icmp_lt (tgt := 18) hx hb dX4_noteAnswer_14 (by decide) (fun c_14 => ?_) (fun c_14 => absurd c_14 (fun h9 => h9 (nI_lt (b := 512) (by omega) (by decide))))
  refine lv_lconst (v := 1) hx hb dX4_noteAnswer_18 (by decide) ?_
  refine lv_aload_n hx hb dX4_noteAnswer_19 rfl (lv_at hl 0 rfl) ?_
  refine mq_get (ci := 9) (v := .int (nI an.length)) (C := RX4) (T := TX4) (N := 7) hx hb hts nX4 hown hK hM h0 rfl 1 (by decide) w0 (fun _ h9 => h9) rfl dX4_noteAnswer_20 ?_
  refine lv_bipush (v := 64) hx hb dX4_noteAnswer_23 (by decide) ?_
  refine lv_irem hx hb dX4_noteAnswer_25 (by decide) ?_
  rw [show (nI an.length) - (nI an.length) / 64 * 64 = nI (an.length % 64) from pk_rem (a := an.length) (d := 64) (by omega) (by omega) (by omega)]
  refine lv_lshl hx hb dX4_noteAnswer_26 rfl ?_
  refine lv_lstore_n (lv' := [(3, .long (bitN an.length)), (0, .ref x), (1, .ref y), (2, .int (zb z))]) hx hb dX4_noteAnswer_27 rfl hl (by decide) rfl (fun ls hl => ?_)
  refine lv_aload_n hx hb dX4_noteAnswer_28 rfl (lv_at hl 1 rfl) ?_
  refine mq_get (ci := 9) (v := .int (nI an.length)) (C := RX4) (T := TX4) (N := 7) hx hb hts nX4 hown hK hM h0 rfl 1 (by decide) w0 (fun _ h9 => h9) rfl dX4_noteAnswer_29 ?_
  refine lv_bipush (v := 64) hx hb dX4_noteAnswer_32 (by decide) ?_
  refine lv_idiv hx hb dX4_noteAnswer_34 (by decide) ?_
  rw [show (nI an.length) / 64 = nI (an.length / 64) from pk_div (a := an.length) (d := 64) (by omega) (by omega) (by omega)]
  refine lv_istore (lv' := [(5, .int (nI (an.length / 64))), (3, .long (bitN an.length)), (0, .ref x), (1, .ref y), (2, .int (zb z))]) hx hb dX4_noteAnswer_35 hl (by decide) rfl (fun ls hl => ?_)
  refine lv_aload_n hx hb dX4_noteAnswer_37 rfl (lv_at hl 2 rfl) ?_
  refine mq_get (ci := 9) (v := .ref w) (C := RX4) (T := TX4) (N := 7) hx hb hts nX4 hown hK hM h0 rfl 6 (by decide) w1 (fun _ h9 => h9) rfl dX4_noteAnswer_38 ?_
  refine lv_iload hx hb dX4_noteAnswer_41 (lv_at hl 0 rfl) ?_
  refine lv_iload_n hx hb dX4_noteAnswer_43 rfl (lv_at hl 4 rfl) ?_
  refine lv_if_eq (tgt := 59) hx hb dX4_noteAnswer_44 (by decide) (fun c_44 => ?_) (fun c_44 => ?_)
  · rw [zb_0] at c_44
    subst c_44
    refine lv_aload_n hx hb dX4_noteAnswer_59 rfl (lv_at hl 2 rfl) ?_
    refine mq_get (ci := 9) (v := .ref w) (C := RX4) (T := TX4) (N := 7) hx hb hts nX4 hown hK hM h0 rfl 6 (by decide) w1 (fun _ h9 => h9) rfl dX4_noteAnswer_60 ?_
    refine lv_iload hx hb dX4_noteAnswer_63 (lv_at hl 0 rfl) ?_
    refine mq_lald hx hb hK hM h1 (vp_in_nI (by omega) (by omega)) dX4_noteAnswer_65 ?_
    rw [show (nI (an.length / 64) : Int32).toNatClampNeg = an.length / 64 from nI_clamp (by omega)]
    refine lv_lload_n hx hb dX4_noteAnswer_66 rfl (lv_at hl 1 rfl) ?_
    refine lv_ldc2 hx hb hown w2 dX4_noteAnswer_67 ?_
    refine lv_lxor hx hb dX4_noteAnswer_70 ?_
    refine lv_land hx hb dX4_noteAnswer_71 ?_
    refine mq_last hx hb hK hM hS h1 (vp_in_nI (by omega) (by omega)) dX4_noteAnswer_72 (fun f_1 H locs e_2 hM hS => ?_)
    rw [show (nI (an.length / 64) : Int32).toNatClampNeg = an.length / 64 from nI_clamp (by omega)] at e_2
    have h_3 : f_1 x = some (.inr (9, [.int (nI odds), .int (nI an.length), .int (du dd), .int (zb op), .int (nI told), .int (nI row), .ref w])) := mq_n e_2 h0 (mq_neA h0 h1)
    have h_4 : f_1 y = some (.inr (10, [.int (nI gu), .int (nI sl), .int (nI ga), .int (nI mm)])) := mq_n e_2 h2 (mq_neA h2 h1)
    have h_5 : f_1 w = some (.inl (G.2 1, 8, .inr (.inl (vp_updL fw (an.length / 64) ((fw (an.length / 64)) &&& ((bitN an.length) ^^^ (-1))))))) := mq_s e_2
    refine lv_aload_n hx hb dX4_noteAnswer_73 rfl (lv_at hl 2 rfl) ?_
    refine lv_dup hx hb dX4_noteAnswer_74 rfl ?_
    refine mq_get (ci := 9) (v := .int (nI an.length)) (C := RX4) (T := TX4) (N := 7) hx hb hts nX4 hown hK hM h_3 rfl 1 (by decide) w0 (fun _ h9 => h9) rfl dX4_noteAnswer_75 ?_
    refine lv_iconst (v := 1) hx hb dX4_noteAnswer_78 (by decide) ?_
    refine lv_iadd hx hb dX4_noteAnswer_79 ?_
    rw [show (nI an.length) + 1 = nI (an.length + 1) from nI_add _ _]
    refine mq_put (ci := 9) (v := .int (nI (an.length + 1))) (ty := .int) (C := RX4) (T := TX4) (N := 7) (fs' := [.int (nI odds), .int (nI (an.length + 1)), .int (du dd), .int (zb op), .int (nI told), .int (nI row), .ref w]) hx hb hts nX4 tyX4 tyX4_ok nmX4 hown hK hM hS h_3 rfl 1 (by decide) w0 (fun _ h9 => h9) rfl (by decide +kernel) rfl rfl (Nat.le_of_ble_eq_true rfl) dX4_noteAnswer_80 rfl (fun f_6 H locs e_7 hM hS => ?_)
    have h_8 : f_6 y = some (.inr (10, [.int (nI gu), .int (nI sl), .int (nI ga), .int (nI mm)])) := mq_n e_7 h_4 (mq_neO h_4 h_3 (by decide))
    have h_9 : f_6 w = some (.inl (G.2 1, 8, .inr (.inl (vp_updL fw (an.length / 64) ((fw (an.length / 64)) &&& ((bitN an.length) ^^^ (-1))))))) := mq_n e_7 h_5 (mq_neB h_5 h_3)
    have h_10 : f_6 x = some (.inr (9, [.int (nI odds), .int (nI (an.length + 1)), .int (du dd), .int (zb op), .int (nI told), .int (nI row), .ref w])) := mq_s e_7
    refine lv_aload_n hx hb dX4_noteAnswer_83 rfl (lv_at hl 2 rfl) ?_
    refine lv_aload_n hx hb dX4_noteAnswer_84 rfl (lv_at hl 3 rfl) ?_
    refine lv_aload_n hx hb dX4_noteAnswer_85 rfl (lv_at hl 2 rfl) ?_
    refine mq_get (ci := 9) (v := .int (nI odds)) (C := RX4) (T := TX4) (N := 7) hx hb hts nX4 hown hK hM h_10 rfl 0 (by decide) w3 (fun _ h9 => h9) rfl dX4_noteAnswer_86 ?_
    refine lv_iload_n hx hb dX4_noteAnswer_89 rfl (lv_at hl 4 rfl) ?_
    refine mq_calli (va_runV (As := [.int (nI odds), .int (zb false)]) (rest := [.ref x]) ⟨hx, hb, hml, hown, hts⟩ (c_X5_oddsAfter l G A f_6 y gu sl ga mm odds false) (cwV 2 hts gX4_noteAnswer_X5_oddsAfter rfl rfl rfl (by decide +kernel) ⟨Nat.le_of_ble_eq_true rfl, Nat.le_of_ble_eq_true rfl⟩) (mq_preV hK hZ hS hA hM (q := (RX5, TX5, 4)) h_8 rfl (⟨h_8, hgu, hsl, hga, ho⟩) _) rfl rfl hl.1 rfl (lv_room (Nat.le_of_ble_eq_true rfl)) dX4_noteAnswer_90 ⟨Nat.le_of_ble_eq_true rfl, Nat.le_of_ble_eq_true rfl⟩) hS (fun r90 g90 H locs p90 hM hS => ?_)
    refine W.widen (k := 0) (n := 0) (Nat.le_of_ble_eq_true rfl) (Nat.le_of_ble_eq_true rfl) ?_
    obtain ⟨rfl, rfl⟩ := p90
    refine mq_put (ci := 9) (v := .int (nI (mv gu sl ga odds false))) (ty := .int) (C := RX4) (T := TX4) (N := 7) (fs' := [.int (nI (mv gu sl ga odds false)), .int (nI (an.length + 1)), .int (du dd), .int (zb op), .int (nI told), .int (nI row), .ref w]) hx hb hts nX4 tyX4 tyX4_ok nmX4 hown hK hM hS h_10 rfl 0 (by decide) w3 (fun _ h9 => h9) rfl (by decide +kernel) rfl rfl (Nat.le_of_ble_eq_true rfl) dX4_noteAnswer_93 rfl (fun f_11 H locs e_12 hM hS => ?_)
    have h_13 : f_11 y = some (.inr (10, [.int (nI gu), .int (nI sl), .int (nI ga), .int (nI mm)])) := mq_n e_12 h_8 (mq_neO h_8 h_10 (by decide))
    have h_14 : f_11 w = some (.inl (G.2 1, 8, .inr (.inl (vp_updL fw (an.length / 64) ((fw (an.length / 64)) &&& ((bitN an.length) ^^^ (-1))))))) := mq_n e_12 h_9 (mq_neB h_9 h_10)
    have h_15 : f_11 x = some (.inr (9, [.int (nI (mv gu sl ga odds false)), .int (nI (an.length + 1)), .int (du dd), .int (zb op), .int (nI told), .int (nI row), .ref w])) := mq_s e_12
    refine lv_aload_n hx hb dX4_noteAnswer_96 rfl (lv_at hl 2 rfl) ?_
    refine lv_iload_n hx hb dX4_noteAnswer_97 rfl (lv_at hl 4 rfl) ?_
    refine lv_if_eq (tgt := 110) hx hb dX4_noteAnswer_98 (by decide) (fun c_98 => ?_) (fun c_98 => absurd c_98 (by decide))
    refine lv_iconst (v := 0) hx hb dX4_noteAnswer_110 (by decide) ?_
    refine mq_put (ci := 9) (v := .int 0) (ty := .int) (C := RX4) (T := TX4) (N := 7) (fs' := [.int (nI (mv gu sl ga odds false)), .int (nI (an.length + 1)), .int (du dd), .int (zb op), .int (nI told), .int 0, .ref w]) hx hb hts nX4 tyX4 tyX4_ok nmX4 hown hK hM hS h_15 rfl 5 (by decide) w4 (fun _ h9 => h9) rfl (by decide +kernel) rfl rfl (Nat.le_of_ble_eq_true rfl) dX4_noteAnswer_111 rfl (fun f_16 H locs e_17 hM hS => ?_)
    have h_18 : f_16 y = some (.inr (10, [.int (nI gu), .int (nI sl), .int (nI ga), .int (nI mm)])) := mq_n e_17 h_13 (mq_neO h_13 h_15 (by decide))
    have h_19 : f_16 w = some (.inl (G.2 1, 8, .inr (.inl (vp_updL fw (an.length / 64) ((fw (an.length / 64)) &&& ((bitN an.length) ^^^ (-1))))))) := mq_n e_17 h_14 (mq_neB h_14 h_15)
    have h_20 : f_16 x = some (.inr (9, [.int (nI (mv gu sl ga odds false)), .int (nI (an.length + 1)), .int (du dd), .int (zb op), .int (nI told), .int 0, .ref w])) := mq_s e_17
    exact mq_vret hx hb hr hlocks hM hS (by rw [e_17, e_12, e_7, e_2]; (try simp only [mq_uu]); (try rfl)) dX4_noteAnswer_114
  · rw [zb_n0] at c_44
    subst c_44
    refine lv_aload_n hx hb dX4_noteAnswer_47 rfl (lv_at hl 2 rfl) ?_
    refine mq_get (ci := 9) (v := .ref w) (C := RX4) (T := TX4) (N := 7) hx hb hts nX4 hown hK hM h0 rfl 6 (by decide) w1 (fun _ h9 => h9) rfl dX4_noteAnswer_48 ?_
    refine lv_iload hx hb dX4_noteAnswer_51 (lv_at hl 0 rfl) ?_
    refine mq_lald hx hb hK hM h1 (vp_in_nI (by omega) (by omega)) dX4_noteAnswer_53 ?_
    rw [show (nI (an.length / 64) : Int32).toNatClampNeg = an.length / 64 from nI_clamp (by omega)]
    refine lv_lload_n hx hb dX4_noteAnswer_54 rfl (lv_at hl 1 rfl) ?_
    refine lv_lor hx hb dX4_noteAnswer_55 ?_
    refine lv_goto (tgt := 72) hx hb dX4_noteAnswer_56 (by decide) ?_
    refine mq_last hx hb hK hM hS h1 (vp_in_nI (by omega) (by omega)) dX4_noteAnswer_72 (fun f_21 H locs e_22 hM hS => ?_)
    rw [show (nI (an.length / 64) : Int32).toNatClampNeg = an.length / 64 from nI_clamp (by omega)] at e_22
    have h_23 : f_21 x = some (.inr (9, [.int (nI odds), .int (nI an.length), .int (du dd), .int (zb op), .int (nI told), .int (nI row), .ref w])) := mq_n e_22 h0 (mq_neA h0 h1)
    have h_24 : f_21 y = some (.inr (10, [.int (nI gu), .int (nI sl), .int (nI ga), .int (nI mm)])) := mq_n e_22 h2 (mq_neA h2 h1)
    have h_25 : f_21 w = some (.inl (G.2 1, 8, .inr (.inl (vp_updL fw (an.length / 64) ((fw (an.length / 64)) ||| (bitN an.length)))))) := mq_s e_22
    refine lv_aload_n hx hb dX4_noteAnswer_73 rfl (lv_at hl 2 rfl) ?_
    refine lv_dup hx hb dX4_noteAnswer_74 rfl ?_
    refine mq_get (ci := 9) (v := .int (nI an.length)) (C := RX4) (T := TX4) (N := 7) hx hb hts nX4 hown hK hM h_23 rfl 1 (by decide) w0 (fun _ h9 => h9) rfl dX4_noteAnswer_75 ?_
    refine lv_iconst (v := 1) hx hb dX4_noteAnswer_78 (by decide) ?_
    refine lv_iadd hx hb dX4_noteAnswer_79 ?_
    rw [show (nI an.length) + 1 = nI (an.length + 1) from nI_add _ _]
    refine mq_put (ci := 9) (v := .int (nI (an.length + 1))) (ty := .int) (C := RX4) (T := TX4) (N := 7) (fs' := [.int (nI odds), .int (nI (an.length + 1)), .int (du dd), .int (zb op), .int (nI told), .int (nI row), .ref w]) hx hb hts nX4 tyX4 tyX4_ok nmX4 hown hK hM hS h_23 rfl 1 (by decide) w0 (fun _ h9 => h9) rfl (by decide +kernel) rfl rfl (Nat.le_of_ble_eq_true rfl) dX4_noteAnswer_80 rfl (fun f_26 H locs e_27 hM hS => ?_)
    have h_28 : f_26 y = some (.inr (10, [.int (nI gu), .int (nI sl), .int (nI ga), .int (nI mm)])) := mq_n e_27 h_24 (mq_neO h_24 h_23 (by decide))
    have h_29 : f_26 w = some (.inl (G.2 1, 8, .inr (.inl (vp_updL fw (an.length / 64) ((fw (an.length / 64)) ||| (bitN an.length)))))) := mq_n e_27 h_25 (mq_neB h_25 h_23)
    have h_30 : f_26 x = some (.inr (9, [.int (nI odds), .int (nI (an.length + 1)), .int (du dd), .int (zb op), .int (nI told), .int (nI row), .ref w])) := mq_s e_27
    refine lv_aload_n hx hb dX4_noteAnswer_83 rfl (lv_at hl 2 rfl) ?_
    refine lv_aload_n hx hb dX4_noteAnswer_84 rfl (lv_at hl 3 rfl) ?_
    refine lv_aload_n hx hb dX4_noteAnswer_85 rfl (lv_at hl 2 rfl) ?_
    refine mq_get (ci := 9) (v := .int (nI odds)) (C := RX4) (T := TX4) (N := 7) hx hb hts nX4 hown hK hM h_30 rfl 0 (by decide) w3 (fun _ h9 => h9) rfl dX4_noteAnswer_86 ?_
    refine lv_iload_n hx hb dX4_noteAnswer_89 rfl (lv_at hl 4 rfl) ?_
    refine mq_calli (va_runV (As := [.int (nI odds), .int (zb true)]) (rest := [.ref x]) ⟨hx, hb, hml, hown, hts⟩ (c_X5_oddsAfter l G A f_26 y gu sl ga mm odds true) (cwV 2 hts gX4_noteAnswer_X5_oddsAfter rfl rfl rfl (by decide +kernel) ⟨Nat.le_of_ble_eq_true rfl, Nat.le_of_ble_eq_true rfl⟩) (mq_preV hK hZ hS hA hM (q := (RX5, TX5, 4)) h_28 rfl (⟨h_28, hgu, hsl, hga, ho⟩) _) rfl rfl hl.1 rfl (lv_room (Nat.le_of_ble_eq_true rfl)) dX4_noteAnswer_90 ⟨Nat.le_of_ble_eq_true rfl, Nat.le_of_ble_eq_true rfl⟩) hS (fun r90 g90 H locs p90 hM hS => ?_)
    refine W.widen (k := 0) (n := 0) (Nat.le_of_ble_eq_true rfl) (Nat.le_of_ble_eq_true rfl) ?_
    obtain ⟨rfl, rfl⟩ := p90
    refine mq_put (ci := 9) (v := .int (nI (mv gu sl ga odds true))) (ty := .int) (C := RX4) (T := TX4) (N := 7) (fs' := [.int (nI (mv gu sl ga odds true)), .int (nI (an.length + 1)), .int (du dd), .int (zb op), .int (nI told), .int (nI row), .ref w]) hx hb hts nX4 tyX4 tyX4_ok nmX4 hown hK hM hS h_30 rfl 0 (by decide) w3 (fun _ h9 => h9) rfl (by decide +kernel) rfl rfl (Nat.le_of_ble_eq_true rfl) dX4_noteAnswer_93 rfl (fun f_31 H locs e_32 hM hS => ?_)
    have h_33 : f_31 y = some (.inr (10, [.int (nI gu), .int (nI sl), .int (nI ga), .int (nI mm)])) := mq_n e_32 h_28 (mq_neO h_28 h_30 (by decide))
    have h_34 : f_31 w = some (.inl (G.2 1, 8, .inr (.inl (vp_updL fw (an.length / 64) ((fw (an.length / 64)) ||| (bitN an.length)))))) := mq_n e_32 h_29 (mq_neB h_29 h_30)
    have h_35 : f_31 x = some (.inr (9, [.int (nI (mv gu sl ga odds true)), .int (nI (an.length + 1)), .int (du dd), .int (zb op), .int (nI told), .int (nI row), .ref w])) := mq_s e_32
    refine lv_aload_n hx hb dX4_noteAnswer_96 rfl (lv_at hl 2 rfl) ?_
    refine lv_iload_n hx hb dX4_noteAnswer_97 rfl (lv_at hl 4 rfl) ?_
    refine lv_if_eq (tgt := 110) hx hb dX4_noteAnswer_98 (by decide) (fun c_98 => absurd c_98 (by decide)) (fun c_98 => ?_)
    refine lv_aload_n hx hb dX4_noteAnswer_101 rfl (lv_at hl 2 rfl) ?_
    refine mq_get (ci := 9) (v := .int (nI row)) (C := RX4) (T := TX4) (N := 7) hx hb hts nX4 hown hK hM h_35 rfl 5 (by decide) w4 (fun _ h9 => h9) rfl dX4_noteAnswer_102 ?_
    refine lv_iconst (v := 1) hx hb dX4_noteAnswer_105 (by decide) ?_
    refine lv_iadd hx hb dX4_noteAnswer_106 ?_
    rw [show (nI row) + 1 = nI (row + 1) from nI_add _ _]
    refine lv_goto (tgt := 111) hx hb dX4_noteAnswer_107 (by decide) ?_
    refine mq_put (ci := 9) (v := .int (nI (row + 1))) (ty := .int) (C := RX4) (T := TX4) (N := 7) (fs' := [.int (nI (mv gu sl ga odds true)), .int (nI (an.length + 1)), .int (du dd), .int (zb op), .int (nI told), .int (nI (row + 1)), .ref w]) hx hb hts nX4 tyX4 tyX4_ok nmX4 hown hK hM hS h_35 rfl 5 (by decide) w4 (fun _ h9 => h9) rfl (by decide +kernel) rfl rfl (Nat.le_of_ble_eq_true rfl) dX4_noteAnswer_111 rfl (fun f_36 H locs e_37 hM hS => ?_)
    have h_38 : f_36 y = some (.inr (10, [.int (nI gu), .int (nI sl), .int (nI ga), .int (nI mm)])) := mq_n e_37 h_33 (mq_neO h_33 h_35 (by decide))
    have h_39 : f_36 w = some (.inl (G.2 1, 8, .inr (.inl (vp_updL fw (an.length / 64) ((fw (an.length / 64)) ||| (bitN an.length)))))) := mq_n e_37 h_34 (mq_neB h_34 h_35)
    have h_40 : f_36 x = some (.inr (9, [.int (nI (mv gu sl ga odds true)), .int (nI (an.length + 1)), .int (du dd), .int (zb op), .int (nI told), .int (nI (row + 1)), .ref w])) := mq_s e_37
    exact mq_vret hx hb hr hlocks hM hS (by rw [e_37, e_32, e_27, e_22]; (try simp only [mq_uu]); (try rfl)) dX4_noteAnswer_114

set_option maxHeartbeats 4000000 in
set_option maxRecDepth 100000 in
theorem c_X4_oddsFromAnswers (l : Launch) (G : mq_G) (A : Nat → Prop) (f : mq_F) (x y : Nat) (odds dd told row : Nat) (op : Bool) (an : List Bool) (w : Nat) (gu sl ga mm : Nat) (fw : Nat → Int64) : Met l yX4_oddsFromAnswers wsX4_oddsFromAnswers ({ frames := 1, cells := 0, slots := 0, locals := 26 } : Room) (mq_Pc G A f ((f x = some (cMa odds an.length dd told row op w) ∧ f w = some (cWo G fw) ∧ f y = some (cSk gu sl ga mm)) ∧ gu ≤ 500 ∧ sl ≤ 500 ∧ ga ≤ 500 ∧ told ≤ 1000 ∧ an.length ≤ 512 ∧ tie fw an) [.ref x, .ref y]) (mq_Qi G A (fun r g => f = g ∧ r = nI (mvs gu sl ga told an))) 0 0 A := by
  refine Met.ofW (cc := cX4_oddsFromAnswers) (maxL := 5) (ret := (some .int)) (by decide) rfl ?_
  intro p e s m args below meth c s₁ B hml hv
  obtain ⟨rfl, ⟨hK, hZ, hM, hA⟩, hp⟩ := hv
  have hx := B.exec
  have hb := B.bytes
  have hr := B.returns
  have hts := atoms_spec (ws := wsX4_oddsFromAnswers) B.pre
  have hown : s.vm.findClass RX4 = some m.cls := findClass_of_methodNamed B.named
  have hlocks := B.notSynchronized
  have hS : va_S A s.heap s.heap [] := va_S.rf
  have hl := lv_entry ([.ref x, .ref y]) (n := 5) (Nat.le_of_ble_eq_true rfl)
  rw [lg_entry_eq]
  generalize (lg_sl ([.ref x, .ref y]) ++ List.replicate (5 - (lg_sl ([.ref x, .ref y])).length) Slot.unset).toArray = ls at hl ⊢
  have hl : lv_has ls 5 [(0, .ref x), (1, .ref y)] := hl
  have w0 := hts (.fieldLink RX4 18 "Tutorlight$Mastery" "toldOdds" "I") (List.mem_of_getElem? (i := 1) rfl)
  have w1 := hts (.fieldLink RX4 25 "Tutorlight$Mastery" "answerCount" "I") (List.mem_of_getElem? (i := 2) rfl)
  have w2 := hts (.fieldLink RX4 21 "Tutorlight$Mastery" "rightAnswers" "[J") (List.mem_of_getElem? (i := 3) rfl)
  have nX4 : ∀ w ∈ wsX40, w ∈ wsX4_oddsFromAnswers := fun _ h => List.mem_cons_of_mem _ (List.mem_append_left _ (List.mem_append_left _ (List.mem_append_left _ (List.mem_append_right _ h))))
  obtain ⟨⟨h0, h1, h2⟩, hgu, hsl, hga, ho, hn, ht⟩ := hp
  refine lv_aload_n hx hb dX4_oddsFromAnswers_0 rfl (lv_at hl 0 rfl) ?_
  refine mq_get (ci := 9) (v := .int (nI told)) (C := RX4) (T := TX4) (N := 7) hx hb hts nX4 hown hK hM h0 rfl 4 (by decide) w0 (fun _ h9 => h9) rfl dX4_oddsFromAnswers_1 ?_
  refine lv_istore_n (lv' := [(2, .int (nI told)), (0, .ref x), (1, .ref y)]) hx hb dX4_oddsFromAnswers_4 rfl hl (by decide) rfl (fun ls hl => ?_)
  refine lv_iconst (v := 0) hx hb dX4_oddsFromAnswers_5 (by decide) ?_
  refine lv_istore_n (lv' := [(3, .int 0), (2, .int (nI told)), (0, .ref x), (1, .ref y)]) hx hb dX4_oddsFromAnswers_6 rfl hl (by decide) rfl (fun ls hl => ?_)
  have K7 : ∀ (n9 : Nat) (i t : Nat), (an.length - i) < n9 → (i ≤ an.length) → (t = mvs gu sl ga told (an.take i)) → ∀ (H : Heap) (locs : List Loc), mq_W G.1 A f H → va_S A s.heap H locs → ∀ (ls : Array Slot), lv_has ls 5 [(0, .ref x), (1, .ref y), (2, .int (nI t)), (3, .int (nI i))] → W p l e (headSpec wsX4_oddsFromAnswers ({ frames := 1, cells := 0, slots := 0, locals := 26 } : Room)).room s m ([.ref x, .ref y] : List Value).toArray below meth c H locs 0 0 (MQ below (mq_Qi G A (fun r g => f = g ∧ r = nI (mvs gu sl ga told an))) ([.ref x, .ref y] : List Value).toArray s 0 0 A) (F0 m 7 ls []) := by
    intro n9
    induction n9 with
    | zero => intro i t hn9; exact absurd hn9 (Nat.not_lt_zero _)
    | succ n9 ih7 =>
      intro i t hn9 hi hq H locs hM hS ls hl
      have hq1 : t ≤ 1000 := by rw [hq]; exact mvs_le hga _ ho
      refine lv_iload_n hx hb dX4_oddsFromAnswers_7 rfl (lv_at hl 3 rfl) ?_
      refine lv_aload_n hx hb dX4_oddsFromAnswers_8 rfl (lv_at hl 0 rfl) ?_
      refine mq_get (ci := 9) (v := .int (nI an.length)) (C := RX4) (T := TX4) (N := 7) hx hb hts nX4 hown hK hM h0 rfl 1 (by decide) w1 (fun _ h9 => h9) rfl dX4_oddsFromAnswers_9 ?_
      refine lv_icmp_ge (tgt := 64) hx hb dX4_oddsFromAnswers_12 (by decide) (fun c_12 => ?_) (fun c_12 => ?_)
      · replace c_12 : nI an.length ≤ nI i := c_12
        rw [nI_leI (by omega) (by omega)] at c_12
        refine lv_iload_n hx hb dX4_oddsFromAnswers_64 rfl (lv_at hl 2 rfl) ?_
        exact mq_iret (v := nI t) hx hb hr hlocks hM hS (⟨rfl, by rw [hq, List.take_of_length_le (by omega)]⟩) dX4_oddsFromAnswers_65
      · replace c_12 : ¬ nI an.length ≤ nI i := c_12
        rw [nI_leI (by omega) (by omega)] at c_12
        refine lv_iload_n hx hb dX4_oddsFromAnswers_15 rfl (lv_at hl 3 rfl) ?_
        refine lv_sipush (v := 512) hx hb dX4_oddsFromAnswers_16 (by decide) ?_
        refine lv_icmp_ge (tgt := 64) hx hb dX4_oddsFromAnswers_19 (by decide) (fun c_19 => absurd c_19 (fun h9 => absurd ((nI_leI (a := 512) (by decide) (by omega)).mp h9) (by omega))) (fun c_19 => ?_)
        refine lv_aload_n hx hb dX4_oddsFromAnswers_22 rfl (lv_at hl 0 rfl) ?_
        refine mq_get (ci := 9) (v := .ref w) (C := RX4) (T := TX4) (N := 7) hx hb hts nX4 hown hK hM h0 rfl 6 (by decide) w2 (fun _ h9 => h9) rfl dX4_oddsFromAnswers_23 ?_
        refine lv_iload_n hx hb dX4_oddsFromAnswers_26 rfl (lv_at hl 3 rfl) ?_
        refine lv_bipush (v := 64) hx hb dX4_oddsFromAnswers_27 (by decide) ?_
        refine lv_idiv hx hb dX4_oddsFromAnswers_29 (by decide) ?_
        rw [show (nI i) / 64 = nI (i / 64) from pk_div (a := i) (d := 64) (by omega) (by omega) (by omega)]
        refine mq_lald hx hb hK hM h1 (vp_in_nI (by omega) (by omega)) dX4_oddsFromAnswers_30 ?_
        rw [show (nI (i / 64) : Int32).toNatClampNeg = i / 64 from nI_clamp (by omega)]
        refine lv_iload_n hx hb dX4_oddsFromAnswers_31 rfl (lv_at hl 3 rfl) ?_
        refine lv_bipush (v := 64) hx hb dX4_oddsFromAnswers_32 (by decide) ?_
        refine lv_irem hx hb dX4_oddsFromAnswers_34 (by decide) ?_
        rw [show (nI i) - (nI i) / 64 * 64 = nI (i % 64) from pk_rem (a := i) (d := 64) (by omega) (by omega) (by omega)]
        refine lv_lshr hx hb dX4_oddsFromAnswers_35 rfl ?_
        refine lv_lconst (v := 1) hx hb dX4_oddsFromAnswers_36 (by decide) ?_
        refine lv_land hx hb dX4_oddsFromAnswers_37 ?_
        refine lv_lconst (v := 0) hx hb dX4_oddsFromAnswers_38 (by decide) ?_
        refine W.lcmp hx hb dX4_oddsFromAnswers_39 ?_
        refine lv_if_eq (tgt := 47) hx hb dX4_oddsFromAnswers_40 (by decide) (fun c_40 => ?_) (fun c_40 => ?_)
        · rw [lg_cmp_eq] at c_40
          rw [gb_read _ (by omega), ht i (by omega)] at c_40
          refine lv_iconst (v := 0) hx hb dX4_oddsFromAnswers_47 (by decide) ?_
          refine lv_istore (lv' := [(4, .int 0), (0, .ref x), (1, .ref y), (2, .int (nI t)), (3, .int (nI i))]) hx hb dX4_oddsFromAnswers_48 hl (by decide) rfl (fun ls hl => ?_)
          refine lv_aload_n hx hb dX4_oddsFromAnswers_50 rfl (lv_at hl 2 rfl) ?_
          refine lv_iload_n hx hb dX4_oddsFromAnswers_51 rfl (lv_at hl 3 rfl) ?_
          refine lv_iload hx hb dX4_oddsFromAnswers_52 (lv_at hl 0 rfl) ?_
          refine mq_calli (va_runV (As := [.int (nI t), .int 0]) (rest := []) ⟨hx, hb, hml, hown, hts⟩ (c_X5_oddsAfter l G A f y gu sl ga mm t false) (cwV 2 hts gX4_oddsFromAnswers_X5_oddsAfter rfl rfl rfl (by decide +kernel) ⟨Nat.le_of_ble_eq_true rfl, Nat.le_of_ble_eq_true rfl⟩) (mq_preV hK hZ hS hA hM (q := (RX5, TX5, 4)) h2 rfl (⟨h2, hgu, hsl, hga, hq1⟩) _) rfl rfl hl.1 rfl (lv_room (Nat.le_of_ble_eq_true rfl)) dX4_oddsFromAnswers_54 ⟨Nat.le_of_ble_eq_true rfl, Nat.le_of_ble_eq_true rfl⟩) hS (fun r54 g54 H locs p54 hM hS => ?_)
          refine W.widen (k := 0) (n := 0) (Nat.le_of_ble_eq_true rfl) (Nat.le_of_ble_eq_true rfl) ?_
          obtain ⟨rfl, rfl⟩ := p54
          refine lv_istore_n (lv' := [(2, .int (nI (mv gu sl ga t false))), (4, .int 0), (0, .ref x), (1, .ref y), (3, .int (nI i))]) hx hb dX4_oddsFromAnswers_57 rfl hl (by decide) rfl (fun ls hl => ?_)
          refine lv_iinc (v := nI (i + 1)) (lv' := [(3, .int (nI (i + 1))), (2, .int (nI (mv gu sl ga t false))), (4, .int 0), (0, .ref x), (1, .ref y)]) hx hb dX4_oddsFromAnswers_58 hl (k := 4) rfl (nI_add _ _) (by decide) rfl (fun ls hl => ?_)
          refine lv_goto (tgt := 7) hx hb dX4_oddsFromAnswers_61 (by decide) ?_
          exact ih7 (i + 1) (mv gu sl ga t false) (by omega) (by omega) (by rw [take_S (by omega), mvs_snoc, ← hq, c_40]) _ _ hM hS _ (lv_sub hl [3, 4, 1, 0] rfl)
        · rw [lg_cmp_eq] at c_40
          rw [gb_read _ (by omega), ht i (by omega), Bool.not_eq_false] at c_40
          refine lv_iconst (v := 1) hx hb dX4_oddsFromAnswers_43 (by decide) ?_
          refine lv_goto (tgt := 48) hx hb dX4_oddsFromAnswers_44 (by decide) ?_
          refine lv_istore (lv' := [(4, .int 1), (0, .ref x), (1, .ref y), (2, .int (nI t)), (3, .int (nI i))]) hx hb dX4_oddsFromAnswers_48 hl (by decide) rfl (fun ls hl => ?_)
          refine lv_aload_n hx hb dX4_oddsFromAnswers_50 rfl (lv_at hl 2 rfl) ?_
          refine lv_iload_n hx hb dX4_oddsFromAnswers_51 rfl (lv_at hl 3 rfl) ?_
          refine lv_iload hx hb dX4_oddsFromAnswers_52 (lv_at hl 0 rfl) ?_
          refine mq_calli (va_runV (As := [.int (nI t), .int 1]) (rest := []) ⟨hx, hb, hml, hown, hts⟩ (c_X5_oddsAfter l G A f y gu sl ga mm t true) (cwV 2 hts gX4_oddsFromAnswers_X5_oddsAfter rfl rfl rfl (by decide +kernel) ⟨Nat.le_of_ble_eq_true rfl, Nat.le_of_ble_eq_true rfl⟩) (mq_preV hK hZ hS hA hM (q := (RX5, TX5, 4)) h2 rfl (⟨h2, hgu, hsl, hga, hq1⟩) _) rfl rfl hl.1 rfl (lv_room (Nat.le_of_ble_eq_true rfl)) dX4_oddsFromAnswers_54 ⟨Nat.le_of_ble_eq_true rfl, Nat.le_of_ble_eq_true rfl⟩) hS (fun r54 g54 H locs p54 hM hS => ?_)
          refine W.widen (k := 0) (n := 0) (Nat.le_of_ble_eq_true rfl) (Nat.le_of_ble_eq_true rfl) ?_
          obtain ⟨rfl, rfl⟩ := p54
          refine lv_istore_n (lv' := [(2, .int (nI (mv gu sl ga t true))), (4, .int 1), (0, .ref x), (1, .ref y), (3, .int (nI i))]) hx hb dX4_oddsFromAnswers_57 rfl hl (by decide) rfl (fun ls hl => ?_)
          refine lv_iinc (v := nI (i + 1)) (lv' := [(3, .int (nI (i + 1))), (2, .int (nI (mv gu sl ga t true))), (4, .int 1), (0, .ref x), (1, .ref y)]) hx hb dX4_oddsFromAnswers_58 hl (k := 4) rfl (nI_add _ _) (by decide) rfl (fun ls hl => ?_)
          refine lv_goto (tgt := 7) hx hb dX4_oddsFromAnswers_61 (by decide) ?_
          exact ih7 (i + 1) (mv gu sl ga t true) (by omega) (by omega) (by rw [take_S (by omega), mvs_snoc, ← hq, c_40]) _ _ hM hS _ (lv_sub hl [3, 4, 1, 0] rfl)
  exact K7 _ 0 told (Nat.lt_succ_self _) (Nat.zero_le _) (rfl) _ _ hM hS _ (lv_sub hl [2, 3, 1, 0] rfl)

set_option maxHeartbeats 4000000 in
set_option maxRecDepth 100000 in
theorem c_X4_daysToWait (l : Launch) (G : mq_G) (A : Nat → Prop) (f : mq_F) (x : Nat) (odds dd told row : Nat) (op : Bool) (an : List Bool) (w : Nat) : Met l yX4_daysToWait wsX4_daysToWait ({ frames := 1, cells := 0, slots := 0, locals := 40 } : Room) (mq_Pc G A f (f x = some (cMa odds an.length dd told row op w) ∧ row < 2 ^ 30) [.ref x]) (mq_Qi G A (fun r g => f = g ∧ r = nI (dw row))) 0 0 A := by
  refine Met.ofW (cc := cX4_daysToWait) (maxL := 1) (ret := (some .int)) (by decide) rfl ?_
  intro p e s m args below meth c s₁ B hml hv
  obtain ⟨rfl, ⟨hK, hZ, hM, hA⟩, hp⟩ := hv
  have hx := B.exec
  have hb := B.bytes
  have hr := B.returns
  have hts := atoms_spec (ws := wsX4_daysToWait) B.pre
  have hown : s.vm.findClass RX4 = some m.cls := findClass_of_methodNamed B.named
  have hlocks := B.notSynchronized
  have hS : va_S A s.heap s.heap [] := va_S.rf
  have hl := lv_entry ([.ref x]) (n := 1) (Nat.le_of_ble_eq_true rfl)
  rw [lg_entry_eq]
  generalize (lg_sl ([.ref x]) ++ List.replicate (1 - (lg_sl ([.ref x])).length) Slot.unset).toArray = ls at hl ⊢
  have hl : lv_has ls 1 [(0, .ref x)] := hl
  have w0 := hts (.fieldLink RX4 36 "Tutorlight$Mastery" "rightInRow" "I") (List.mem_of_getElem? (i := 1) rfl)
  have w1 := hts (.methodLink RX4 39 Lib.Math.min.name) (List.mem_of_getElem? (i := 2) rfl)
  have w2 := hts (.static Lib.Math.min.name) (List.mem_of_getElem? (i := 3) rfl)
  have w3 := hts (.initialized "java/lang/Math") (List.mem_of_getElem? (i := 4) rfl)
  have w4 := hts (.code Lib.Math.min.name Lib.Math.min.code 2 (some .int)) (List.mem_of_getElem? (i := 5) rfl)
  have nX4 : ∀ w ∈ wsX40, w ∈ wsX4_daysToWait := fun _ h => List.mem_cons_of_mem _ (List.mem_append_right _ h)
  obtain ⟨h0, hr0⟩ := hp
  refine lv_aload_n hx hb dX4_daysToWait_0 rfl (lv_at hl 0 rfl) ?_
  refine mq_get (ci := 9) (v := .int (nI row)) (C := RX4) (T := TX4) (N := 7) hx hb hts nX4 hown hK hM h0 rfl 5 (by decide) w0 (fun _ h9 => h9) rfl dX4_daysToWait_1 ?_
  refine lv_if_ne (tgt := 11) hx hb dX4_daysToWait_4 (by decide) (fun c_4 => ?_) (fun c_4 => ?_)
  · replace c_4 : ¬ nI row = nI 0 := c_4
    rw [nI_eq (by omega) (by omega)] at c_4
    refine lv_iconst (v := 1) hx hb dX4_daysToWait_11 (by decide) ?_
    refine lv_aload_n hx hb dX4_daysToWait_12 rfl (lv_at hl 0 rfl) ?_
    refine mq_get (ci := 9) (v := .int (nI row)) (C := RX4) (T := TX4) (N := 7) hx hb hts nX4 hown hK hM h0 rfl 5 (by decide) w0 (fun _ h9 => h9) rfl dX4_daysToWait_13 ?_
    refine lv_iconst (v := 1) hx hb dX4_daysToWait_16 (by decide) ?_
    refine lv_isub hx hb dX4_daysToWait_17 ?_
    rw [show (nI row) - 1 = nI (row - 1) from pk_sub (a := row) (b := 1) (by omega)]
    refine lv_iconst (v := 4) hx hb dX4_daysToWait_18 (by decide) ?_
    refine va_mmin hx hb (hml.trans hl.1.symm) hown w1 w2 w3 w4 (Nat.le_of_ble_eq_true rfl) (Nat.le_of_ble_eq_true rfl) (Nat.le_of_ble_eq_true rfl) (Nat.le_of_ble_eq_true rfl) dX4_daysToWait_19 ?_
    rw [show (if 4 < (nI (row - 1)) then 4 else (nI (row - 1)) : Int32) = nI (min (row - 1) 4) from nI_min (a := row - 1) (b := 4) (by omega) (by omega)]
    refine lv_ishl hx hb dX4_daysToWait_22 ?_
    rw [show 1 <<< ((nI (min (row - 1) 4)) &&& 31) = nI (2 ^ (min (row - 1) 4)) from dw_shl _ (by omega)]
    exact mq_iret (v := nI (2 ^ (min (row - 1) 4))) hx hb hr hlocks hM hS (⟨rfl, by simp [dw, c_4, nI]⟩) dX4_daysToWait_23
  · replace c_4 : nI row = nI 0 := c_4
    rw [nI_eq (by omega) (by omega)] at c_4
    refine lv_iconst (v := 1) hx hb dX4_daysToWait_7 (by decide) ?_
    refine lv_goto (tgt := 23) hx hb dX4_daysToWait_8 (by decide) ?_
    exact mq_iret (v := 1) hx hb hr hlocks hM hS (⟨rfl, by simp [dw, c_4, nI]⟩) dX4_daysToWait_23

set_option maxHeartbeats 4000000 in
set_option maxRecDepth 100000 in
theorem c_X4_wasAnswered (l : Launch) (G : mq_G) (A : Nat → Prop) (f : mq_F) (x : Nat) (odds dd told row : Nat) (op : Bool) (an : List Bool) (w : Nat) : Met l yX4_wasAnswered wsX4_wasAnswered ({ frames := 0, cells := 0, slots := 0, locals := 0 } : Room) (mq_Pc G A f (f x = some (cMa odds an.length dd told row op w) ∧ dd < 2 ^ 30) [.ref x]) (mq_Qi G A (fun r g => f = g ∧ r = zb (decide (dd ≠ 0)))) 0 0 A := by
  refine Met.ofW (cc := cX4_wasAnswered) (maxL := 1) (ret := (some .boolean)) (by decide) rfl ?_
  intro p e s m args below meth c s₁ B hml hv
  obtain ⟨rfl, ⟨hK, hZ, hM, hA⟩, hp⟩ := hv
  have hx := B.exec
  have hb := B.bytes
  have hr := B.returns
  have hts := atoms_spec (ws := wsX4_wasAnswered) B.pre
  have hown : s.vm.findClass RX4 = some m.cls := findClass_of_methodNamed B.named
  have hlocks := B.notSynchronized
  have hS : va_S A s.heap s.heap [] := va_S.rf
  have hl := lv_entry ([.ref x]) (n := 1) (Nat.le_of_ble_eq_true rfl)
  rw [lg_entry_eq]
  generalize (lg_sl ([.ref x]) ++ List.replicate (1 - (lg_sl ([.ref x])).length) Slot.unset).toArray = ls at hl ⊢
  have hl : lv_has ls 1 [(0, .ref x)] := hl
  have w0 := hts (.fieldLink RX4 15 "Tutorlight$Mastery" "dueDay" "I") (List.mem_of_getElem? (i := 1) rfl)
  have nX4 : ∀ w ∈ wsX40, w ∈ wsX4_wasAnswered := fun _ h => List.mem_cons_of_mem _ (List.mem_append_right _ h)
  obtain ⟨h0, hd0⟩ := hp
  refine lv_aload_n hx hb dX4_wasAnswered_0 rfl (lv_at hl 0 rfl) ?_
  refine mq_get (ci := 9) (v := .int (du dd)) (C := RX4) (T := TX4) (N := 7) hx hb hts nX4 hown hK hM h0 rfl 2 (by decide) w0 (fun _ h9 => h9) rfl dX4_wasAnswered_1 ?_
  refine lv_iconst (v := (-1)) hx hb dX4_wasAnswered_4 (by decide) ?_
  refine lv_icmp_eq (tgt := 12) hx hb dX4_wasAnswered_5 (by decide) (fun c_5 => ?_) (fun c_5 => ?_)
  · replace c_5 : du dd = (-1) := c_5
    rw [du_m1 (by omega)] at c_5
    refine lv_iconst (v := 0) hx hb dX4_wasAnswered_12 (by decide) ?_
    exact mq_zret (v := 0) hx hb hr (rfl) hlocks hM hS (⟨rfl, by simp [zb, c_5]⟩) dX4_wasAnswered_13
  · replace c_5 : ¬ du dd = (-1) := c_5
    rw [du_m1 (by omega)] at c_5
    refine lv_iconst (v := 1) hx hb dX4_wasAnswered_8 (by decide) ?_
    refine lv_goto (tgt := 13) hx hb dX4_wasAnswered_9 (by decide) ?_
    exact mq_zret (v := 1) hx hb hr (rfl) hlocks hM hS (⟨rfl, by simp [zb, c_5]⟩) dX4_wasAnswered_13

set_option maxHeartbeats 4000000 in
set_option maxRecDepth 100000 in
theorem c_X4_isDueBy (l : Launch) (G : mq_G) (A : Nat → Prop) (f : mq_F) (x : Nat) (odds dd told row : Nat) (op : Bool) (an : List Bool) (w : Nat) (day : Nat) : Met l yX4_isDueBy wsX4_isDueBy ({ frames := 1, cells := 0, slots := 0, locals := 20 } : Room) (mq_Pc G A f (f x = some (cMa odds an.length dd told row op w) ∧ dd < 2 ^ 30 ∧ day < 2 ^ 30) [.ref x, .int (nI day)]) (mq_Qi G A (fun r g => f = g ∧ r = zb (decide (dd ≠ 0 ∧ dd ≤ day + 1)))) 0 0 A := by
  refine Met.ofW (cc := cX4_isDueBy) (maxL := 2) (ret := (some .boolean)) (by decide) rfl ?_
  intro p e s m args below meth c s₁ B hml hv
  obtain ⟨rfl, ⟨hK, hZ, hM, hA⟩, hp⟩ := hv
  have hx := B.exec
  have hb := B.bytes
  have hr := B.returns
  have hts := atoms_spec (ws := wsX4_isDueBy) B.pre
  have hown : s.vm.findClass RX4 = some m.cls := findClass_of_methodNamed B.named
  have hlocks := B.notSynchronized
  have hS : va_S A s.heap s.heap [] := va_S.rf
  have hl := lv_entry ([.ref x, .int (nI day)]) (n := 2) (Nat.le_of_ble_eq_true rfl)
  rw [lg_entry_eq]
  generalize (lg_sl ([.ref x, .int (nI day)]) ++ List.replicate (2 - (lg_sl ([.ref x, .int (nI day)])).length) Slot.unset).toArray = ls at hl ⊢
  have hl : lv_has ls 2 [(0, .ref x), (1, .int (nI day))] := hl
  have w0 := hts (.fieldLink RX4 15 "Tutorlight$Mastery" "dueDay" "I") (List.mem_of_getElem? (i := 1) rfl)
  have nX4 : ∀ w ∈ wsX40, w ∈ wsX4_isDueBy := fun _ h => List.mem_cons_of_mem _ (List.mem_append_right _ h)
  obtain ⟨h0, hd0, hd1⟩ := hp
  refine lv_aload_n hx hb dX4_isDueBy_0 rfl (lv_at hl 0 rfl) ?_
  refine mq_calli (va_runV (As := []) (rest := []) ⟨hx, hb, hml, hown, hts⟩ (c_X4_wasAnswered l G A f x odds dd told row op an w) (cwV 0 hts gX4_isDueBy_X4_wasAnswered rfl rfl rfl (by decide +kernel) ⟨Nat.le_of_ble_eq_true rfl, Nat.le_of_ble_eq_true rfl⟩) (mq_preV hK hZ hS hA hM (q := (RX4, TX4, 7)) h0 rfl (⟨h0, hd0⟩) _) rfl rfl hl.1 rfl (lv_room (Nat.le_of_ble_eq_true rfl)) dX4_isDueBy_1 ⟨Nat.le_of_ble_eq_true rfl, Nat.le_of_ble_eq_true rfl⟩) hS (fun r1 g1 H locs p1 hM hS => ?_)
  refine W.widen (k := 0) (n := 0) (Nat.le_of_ble_eq_true rfl) (Nat.le_of_ble_eq_true rfl) ?_
  obtain ⟨rfl, rfl⟩ := p1
  refine lv_if_eq (tgt := 19) hx hb dX4_isDueBy_4 (by decide) (fun c_4 => ?_) (fun c_4 => ?_)
  · rw [zb_0] at c_4
    simp at c_4
    refine lv_iconst (v := 0) hx hb dX4_isDueBy_19 (by decide) ?_
    exact mq_zret (v := 0) hx hb hr (rfl) hlocks hM hS (⟨rfl, by simp [zb, c_4]⟩) dX4_isDueBy_20
  · rw [zb_n0] at c_4
    simp at c_4
    refine lv_aload_n hx hb dX4_isDueBy_7 rfl (lv_at hl 0 rfl) ?_
    refine mq_get (ci := 9) (v := .int (du dd)) (C := RX4) (T := TX4) (N := 7) hx hb hts nX4 hown hK hM h0 rfl 2 (by decide) w0 (fun _ h9 => h9) rfl dX4_isDueBy_8 ?_
    refine lv_iload_n hx hb dX4_isDueBy_11 rfl (lv_at hl 1 rfl) ?_
    refine lv_icmp_gt (tgt := 19) hx hb dX4_isDueBy_12 (by decide) (fun c_12 => ?_) (fun c_12 => ?_)
    · replace c_12 : nI day < du dd := c_12
      rw [du_Nlt (by omega) (by omega)] at c_12
      have c_12 : ¬ dd ≤ day + 1 := by omega
      refine lv_iconst (v := 0) hx hb dX4_isDueBy_19 (by decide) ?_
      exact mq_zret (v := 0) hx hb hr (rfl) hlocks hM hS (⟨rfl, by simp [zb, c_4, c_12]⟩) dX4_isDueBy_20
    · replace c_12 : ¬ nI day < du dd := c_12
      rw [du_Nlt (by omega) (by omega)] at c_12
      refine lv_iconst (v := 1) hx hb dX4_isDueBy_15 (by decide) ?_
      refine lv_goto (tgt := 20) hx hb dX4_isDueBy_16 (by decide) ?_
      exact mq_zret (v := 1) hx hb hr (rfl) hlocks hM hS (⟨rfl, by simp [zb, c_4, c_12]⟩) dX4_isDueBy_20
