/-! THE CLASS: what it writes -/
theorem WR_day {G : mq_G} {f g : mq_F} {ad : AD} {S : AT} {X : CX} {S2 : AT} {Y : MX} {O : OX} (hR : WR G f ad S X S2 Y O) (d : Nat) (hg : g = mq_up f (ad 0 0 0) (.inr (12, [.ref (ad 1 0 0), .ref (ad 2 0 0), .ref (ad 3 0 0), .int (nI (aN S)), .int (nI (aL S)), .int (nI d)]))) : WR G g ad (sTop S (aN S) (aL S) d) X S2 Y O := by
  have h := RR.put hR t0 rfl hg
  rw [cT_day] at h; exact h
theorem WR_ma {G : mq_G} {f g : mq_F} {ad : AD} {S : AT} {X : CX} {S2 : AT} {Y : MX} {O : OX} {j k : Nat} (hR : WR G f ad S X S2 Y O) (v : maT) (hj : j < aL S) (hk : k < 10) (hg : g = mq_up f (ad 7 j k) (cMa (mOd v) (mAn v).length (mDu v) (mTo v) (mRo v) (mOp v) (ad 8 j k))) : WR G g ad (sMa S j k v) X S2 Y O := by
  have h := RR.put hR (t7 hj hk) rfl hg
  rw [cT_ma v hj hk] at h; exact h
theorem WR_wo {G : mq_G} {f g : mq_F} {ad : AD} {S : AT} {X : CX} {S2 : AT} {Y : MX} {O : OX} {j k : Nat} (hR : WR G f ad S X S2 Y O) (w : Nat → Int64) (hj : j < aL S) (hk : k < 10) (hg : g = mq_up f (ad 8 j k) (cWo G w)) : WR G g ad S (sW X j k w) S2 Y O := by
  have h := RR.put hR (t8 hj hk) rfl hg
  rw [cT_wo w hj hk] at h; exact h
theorem WR_sk {G : mq_G} {f g : mq_F} {ad : AD} {S : AT} {X : CX} {S2 : AT} {Y : MX} {O : OX} {k : Nat} (hR : WR G f ad S X S2 Y O) (v : skT) (hk : k < aN S) (hg : g = mq_up f (ad 4 k 0) (cSk v.1 v.2.1 v.2.2.1 v.2.2.2)) : WR G g ad (sSk S k v) X S2 Y O := by
  have h := RR.put hR (t4 hk) rfl hg
  rw [cT_sk v hk] at h; exact h
theorem WR_ex {G : mq_G} {f g : mq_F} {ad : AD} {S : AT} {X : CX} {S2 : AT} {Y : MX} {O : OX} {j : Nat} {e : exT} (hR : WR G f ad S X S2 Y O) (wr hi : Nat) (hj : j < aL S) (he : lEx (aE S j) = some e) (hg : g = mq_up f (ad 10 j 0) (cEx e.1 (ex_sol e.2.1) (ad 11 j 0) wr hi)) : WR G g ad (sLe S j (some (e.1, e.2.1, e.2.2.1, wr, hi), lWs (aE S j), lMd (aE S j))) X S2 Y O := by
  have h := RR.put hR (t10 hj he) rfl hg
  rw [cT_ex wr hi hj he] at h; exact h
theorem sMa_sMa {S : AT} {j k : Nat} {v v' : maT} : sMa (sMa S j k v) j k v' = sMa S j k v' := by
  show (S.1, aS S, fU2 (fU2 (aM S) j k v) j k v', aE S) = (S.1, aS S, fU2 (aM S) j k v', aE S)
  congr 3
  funext j' k'
  unfold fU2
  split <;> rfl
abbrev spOpen (S : AT) (i1 i2 : Int32) : Nat × Int32 × AT := spLS S i1 i2 (fun j k => (0, zb (!opn S j k), nsOpen S j k)) (0, S)
abbrev spSet (S : AT) (i1 i2 o : Int32) : Nat × Int32 × AT := spLS S i1 i2 (fun j k => if vI o 1001 then (0, nI (mOd (aM S j k)), nsSet S j k o.toNatClampNeg) else (2, 0, S)) (0, S)
abbrev spAnswer (S : AT) (i1 i2 : Int32) (z : Bool) : Nat × Int32 × AT := spLS S i1 i2 (fun j k => if opn S j k then (0, nI (mOd (nMa S j k z)), nsNote S j k z) else (2, 0, S)) (0, S)
def spDay (S : AT) : Nat × Int32 × AT := if aD S < 200 then (0, nI (aD S + 1), sTop S (aN S) (aL S) (aD S + 1)) else (1, 0, S)
theorem ok_day {S : AT} {X : CX} {T : Nat} (h : cOK S X T) (hT : T < 512) (hd : aD S < 200) : cOK (sTop S (aN S) (aL S) (aD S + 1)) X (T + 1) := by
  have h9 := ok_mono h hT
  exact ⟨⟨h9.1.1, h9.1.2.1, hd, h9.1.2.2.2⟩, h9.2⟩
def hintV (q : eqT) : Int32 := if eq_rule 1 false q ≠ q then 1 else if eq_rule 0 false q ≠ q then 0 else if eq_rule 4 false q ≠ q then 4 else 3
def hiV (S : AT) (j : Nat) (o : Option exT) : Nat × Int32 × AT := match o with
  | none => (2, 0, S)
  | some e => (0, hintV e.2.2.1, sLe S j (some (e.1, e.2.1, e.2.2.1, e.2.2.2.1, e.2.2.2.2 + 1), lWs (aE S j), lMd (aE S j)))
abbrev spHint (S : AT) (i : Int32) : Nat × Int32 × AT := spL S i (fun j => hiV S j (lEx (aE S j))) (0, S)
/-- an exercise that changes, its last numbers staying -/
theorem ok_le {S : AT} {X : CX} {T j : Nat} {o : Option exT} {w : Option (eqT × eqT)} (h : cOK S X T) (hT : T < 512) (hj : j < aL S) (ho : ∀ e, o = some e → exOK (aN S) (T + 1) e) : cOK (sLe S j (o, w, lMd (aE S j))) X (T + 1) := by
  have h9 := ok_mono h hT
  refine ⟨h9.1, h9.2.1, h9.2.2.1, h9.2.2.2.1, fun j' hj' => ?_, h9.2.2.2.2.2⟩
  by_cases e : j' = j
  · subst e
    show (∀ e, lEx (fU (aE S) j' _ j') = some e → _) ∧ riOK (lMd (fU (aE S) j' _ j')) _ _ ∧ (lMd (fU (aE S) j' _ j')).length ≤ _
    rw [fU_s]
    exact ⟨ho, (h9.2.2.2.2.1 j' hj').2⟩
  · show (∀ e, lEx (fU (aE S) j _ j') = some e → _) ∧ riOK (lMd (fU (aE S) j _ j')) _ _ ∧ (lMd (fU (aE S) j _ j')).length ≤ _
    rw [fU_n e]
    exact h9.2.2.2.2.1 j' hj'
def neV (S : AT) (k m : Nat) : Nat × Int32 × AT := if (ctn S m (aN S)).testBit k then (2, 0, S) else if (aS S k).2.2.2.testBit m then (0, 0, S) else (0, 1, sSk S k ((aS S k).1, (aS S k).2.1, (aS S k).2.2.1, (aS S k).2.2.2 ||| 2 ^ m))
def spNeed (S : AT) (i1 i2 : Int32) : Nat × Int32 × AT := if vI i1 (aN S) && vI i2 (aN S) then neV S i1.toNatClampNeg i2.toNatClampNeg else (1, 0, S)
theorem spNeed_y {S : AT} {k m : Nat} (hk : k < aN S) (hm : m < aN S) (hn : aN S ≤ 10) : spNeed S (nI k) (nI m) = neV S k m := by
  unfold spNeed
  rw [vI_nI hk (by omega), vI_nI hm (by omega), nI_clamp (by omega), nI_clamp (by omega)]; rfl
theorem spNeed_n {S : AT} {i1 i2 : Int32} (h : ¬ (vp_in i1 (aN S) ∧ vp_in i2 (aN S))) : spNeed S i1 i2 = (1, 0, S) := by
  unfold spNeed
  rw [if_neg]
  intro q
  rw [Bool.and_eq_true] at q
  exact h ⟨vI_iff.mp q.1, vI_iff.mp q.2⟩
theorem ok_need {S : AT} {X : CX} {T k m : Nat} (h : cOK S X T) (hT : T < 512) (hk : k < aN S) (hm : m < aN S) : cOK (sSk S k ((aS S k).1, (aS S k).2.1, (aS S k).2.2.1, (aS S k).2.2.2 ||| 2 ^ m)) X (T + 1) := by
  have h9 := ok_mono h hT
  have e : ∀ k', (fU (aS S) k ((aS S k).1, (aS S k).2.1, (aS S k).2.2.1, (aS S k).2.2.2 ||| 2 ^ m) k').1 = (aS S k').1 ∧ (fU (aS S) k ((aS S k).1, (aS S k).2.1, (aS S k).2.2.1, (aS S k).2.2.2 ||| 2 ^ m) k').2.1 = (aS S k').2.1 ∧ (fU (aS S) k ((aS S k).1, (aS S k).2.1, (aS S k).2.2.1, (aS S k).2.2.2 ||| 2 ^ m) k').2.2.1 = (aS S k').2.2.1 := by
    intro k'
    by_cases q : k' = k
    · subst q; rw [fU_s]; exact ⟨rfl, rfl, rfl⟩
    · rw [fU_n q]; exact ⟨rfl, rfl, rfl⟩
  refine ⟨h9.1, fun k' hk' => ?_, fun j k' hj hk' => ?_, h9.2.2.2.1, h9.2.2.2.2.1, h9.2.2.2.2.2⟩
  · obtain ⟨s1, s2, s3, s4⟩ := h.2.1 k' hk'
    obtain ⟨e1, e2, e3⟩ := e k'
    refine ⟨by rw [e1]; exact s1, by rw [e2]; exact s2, by rw [e3]; exact s3, ?_⟩
    by_cases q : k' = k
    · subst q
      show (fU (aS S) k' _ k').2.2.2 < 2 ^ aN S
      rw [fU_s]
      exact Nat.or_lt_two_pow s4 (Nat.pow_lt_pow_right (by decide) hm)
    · show (fU (aS S) k _ k').2.2.2 < 2 ^ aN S
      rw [fU_n q]; exact s4
  · obtain ⟨m1, m2, m3, m4, m5, m6, m7, m8⟩ := h9.2.2.1 j k' hj hk'
    obtain ⟨e1, e2, e3⟩ := e k'
    exact ⟨m1, m2, m3, m4, m5, m6, fun q => by have h7 := m7 q; rw [← e1, ← e2, ← e3] at h7; exact h7, m8⟩

set_option maxHeartbeats 4000000 in
set_option maxRecDepth 100000 in
theorem c_X7_open (l : Launch) (hfl : l.stackTraces = false) (G : mq_G) (A : Nat → Prop) (f : mq_F) (ad : AD) (S : AT) (X : CX) (S2 : AT) (Y : MX) (O : OX) (T : Nat) (ua ub : Int32) : vx_Met l yX7_open wsX7_open ({ frames := 8, cells := 2, slots := 12, locals := 141 } : Room) (mq_Pc G A f (WR G f ad S X S2 Y O ∧ cOK S X T ∧ T < 512) [.ref (ad 0 0 0), .int ua, .int ub]) (mq_Qi G A (fun r g => ∃ S9 X9, spOpen S ua ub = (0, r, S9) ∧ WR G g ad S9 X9 S2 Y O ∧ cOK S9 X9 (T + 1))) (mq_X G A (fun E g => f = g ∧ ((spOpen S ua ub).1 = 1 ∧ E = "java/lang/IndexOutOfBoundsException"))) 2 12 A := by
  refine vx_ofW (cc := cX7_open) (maxL := 5) (ret := (some .boolean)) (by decide) rfl ?_
  intro p e s m args below meth c s₁ B hml ht9 hv
  obtain ⟨rfl, ⟨hK, hZ, hM, hA⟩, hp⟩ := hv
  have hx := B.exec
  have hb := B.bytes
  have hr := B.returns
  have hts := atoms_spec (ws := wsX7_open) B.pre
  have hown : s.vm.findClass RX7 = some m.cls := findClass_of_methodNamed B.named
  have hlocks := B.notSynchronized
  have hS : va_S A s.heap s.heap [] := va_S.rf
  have hl := lv_entry ([.ref (ad 0 0 0), .int ua, .int ub]) (n := 5) (Nat.le_of_ble_eq_true rfl)
  rw [lg_entry_eq]
  generalize (lg_sl ([.ref (ad 0 0 0), .int ua, .int ub]) ++ List.replicate (5 - (lg_sl ([.ref (ad 0 0 0), .int ua, .int ub])).length) Slot.unset).toArray = ls at hl ⊢
  have hl : lv_has ls 5 [(0, .ref (ad 0 0 0)), (1, .int ua), (2, .int ub)] := hl
  have w0 := hts (.fieldLink RX7 80 "Tutorlight$Learner" "masteries" "[LTutorlight$Mastery;") (List.mem_of_getElem? (i := 1) rfl)
  have w1 := hts (.fieldLink RX7 84 "Tutorlight$Mastery" "isOpenedByTeacher" "Z") (List.mem_of_getElem? (i := 2) rfl)
  have nX3 : ∀ w ∈ wsX30, w ∈ wsX7_open := fun _ h => List.mem_cons_of_mem _ (List.mem_append_left _ (List.mem_append_left _ (List.mem_append_left _ (List.mem_append_left _ (List.mem_append_right _ h)))))
  have nX4 : ∀ w ∈ wsX40, w ∈ wsX7_open := fun _ h => List.mem_cons_of_mem _ (List.mem_append_left _ (List.mem_append_left _ (List.mem_append_left _ (List.mem_append_right _ h))))
  obtain ⟨hR, hO, hT5⟩ := hp
  obtain ⟨⟨hn, hl4, hd2, hT⟩, hsk, hma, hdc, hle, hxb⟩ := id hO
  have y0_100 := hR.1 _ _ _ _ (t0)
  refine lv_aload_n hx hb dX7_open_0 rfl (lv_at hl 0 rfl) ?_
  refine lv_iload_n hx hb dX7_open_1 rfl (lv_at hl 1 rfl) ?_
  refine mq_xcallq (vx_runV (As := [.int ua]) (rest := []) ⟨hx, hb, hml, hown, hts⟩ (c_X7_learnerAt l hfl G A f ad S X S2 Y O T ua) (cwV 1 hts gX7_open_X7_learnerAt rfl rfl rfl (by decide +kernel) ⟨Nat.le_of_ble_eq_true rfl, Nat.le_of_ble_eq_true rfl⟩) (mq_preV hK hZ hS hA hM (q := (RX7, TX7, 6)) y0_100 rfl (⟨hR, hO⟩) _) rfl rfl hl.1 rfl (lv_room (Nat.le_of_ble_eq_true rfl)) dX7_open_2 ⟨Nat.le_of_ble_eq_true rfl, Nat.le_of_ble_eq_true rfl⟩) hS (fun E ce q9 g2 H locs p2 hM hS hce hcv hcl => ?_) (fun r2 g2 H locs p2 hM hS => ?_)
  · obtain ⟨rfl, rfl, q9⟩ := p2
    exact mq_out (List.eq_nil_iff_forall_not_mem.mpr fun x hx => ht9 x hx) hlocks hce hcv hcl hM hS (⟨rfl, ⟨congrArg Prod.fst (spLS_n (fun q => q9 q.1)), rfl⟩⟩) (Nat.le_of_ble_eq_true rfl) (Nat.le_of_ble_eq_true rfl)
  refine W.widen (k := 1) (n := 6) (Nat.le_of_ble_eq_true rfl) (Nat.le_of_ble_eq_true rfl) ?_
  obtain ⟨rfl, j, hj, rfl, rfl⟩ := p2
  refine lv_astore_n (lv' := [(3, .ref (ad 5 j 0)), (0, .ref (ad 0 0 0)), (1, .int (nI j)), (2, .int ub)]) hx hb dX7_open_5 rfl hl (by decide) rfl (fun ls hl => ?_)
  refine lv_aload_n hx hb dX7_open_6 rfl (lv_at hl 1 rfl) ?_
  refine lv_iload_n hx hb dX7_open_7 rfl (lv_at hl 3 rfl) ?_
  refine mq_xcallq (vx_runV (As := [.int ub]) (rest := []) ⟨hx, hb, hml, hown, hts⟩ (c_X7_skillAt l hfl G A f ad S X S2 Y O T ub) (cwV 1 hts gX7_open_X7_skillAt rfl rfl rfl (by decide +kernel) ⟨Nat.le_of_ble_eq_true rfl, Nat.le_of_ble_eq_true rfl⟩) (mq_preV hK hZ hS hA hM (q := (RX7, TX7, 6)) y0_100 rfl (⟨hR, hO⟩) _) rfl rfl hl.1 rfl (lv_room (Nat.le_of_ble_eq_true rfl)) dX7_open_8 ⟨Nat.le_of_ble_eq_true rfl, Nat.le_of_ble_eq_true rfl⟩) hS (fun E ce q9 g8 H locs p8 hM hS hce hcv hcl => ?_) (fun r8 g8 H locs p8 hM hS => ?_)
  · obtain ⟨rfl, rfl, q9⟩ := p8
    exact mq_out (List.eq_nil_iff_forall_not_mem.mpr fun x hx => ht9 x hx) hlocks hce hcv hcl hM hS (⟨rfl, ⟨congrArg Prod.fst (spLS_n (fun q => q9 q.2)), rfl⟩⟩) (Nat.le_of_ble_eq_true rfl) (Nat.le_of_ble_eq_true rfl)
  refine W.widen (k := 2) (n := 12) (Nat.le_of_ble_eq_true rfl) (Nat.le_of_ble_eq_true rfl) ?_
  obtain ⟨rfl, k, hk, rfl, rfl⟩ := p8
  refine lv_pop hx hb dX7_open_11 rfl ?_
  refine lv_aload_n hx hb dX7_open_12 rfl (lv_at hl 1 rfl) ?_
  refine lv_aload_n hx hb dX7_open_13 rfl (lv_at hl 0 rfl) ?_
  refine lv_iload_n hx hb dX7_open_14 rfl (lv_at hl 3 rfl) ?_
  refine mq_calli (va_runV (As := [.ref (ad 5 j 0), .int (nI k)]) (rest := []) ⟨hx, hb, hml, hown, hts⟩ (c_X7_isOpenFor l G A f ad S X S2 Y O T j k) (cwV 2 hts gX7_open_X7_isOpenFor rfl rfl rfl (by decide +kernel) ⟨Nat.le_of_ble_eq_true rfl, Nat.le_of_ble_eq_true rfl⟩) (mq_preV hK hZ hS hA hM (q := (RX7, TX7, 6)) y0_100 rfl (⟨hR, hO, hj, hk⟩) _) rfl rfl hl.1 rfl (lv_room (Nat.le_of_ble_eq_true rfl)) dX7_open_15 ⟨Nat.le_of_ble_eq_true rfl, Nat.le_of_ble_eq_true rfl⟩) hS (fun r15 g15 H locs p15 hM hS => ?_)
  refine W.widen (k := 2) (n := 12) (Nat.le_of_ble_eq_true rfl) (Nat.le_of_ble_eq_true rfl) ?_
  obtain ⟨rfl, rfl⟩ := p15
  refine lv_istore (lv' := [(4, .int (zb (opn S j k))), (3, .ref (ad 5 j 0)), (0, .ref (ad 0 0 0)), (1, .int (nI j)), (2, .int (nI k))]) hx hb dX7_open_18 hl (by decide) rfl (fun ls hl => ?_)
  have y5_97 := hR.1 _ _ _ _ (t5 (j := j) hj)
  have y6_98 := hR.1 _ _ _ _ (t6 (j := j) hj)
  have y7_99 := hR.1 _ _ _ _ (t7 (j := j) (k := k) hj (by omega))
  refine lv_aload_n hx hb dX7_open_20 rfl (lv_at hl 1 rfl) ?_
  refine mq_get (ci := 8) (v := .ref (ad 6 j 0)) (C := RX3) (T := TX3) (N := 5) hx hb hts nX3 hown hK hM y5_97 rfl 0 (by decide) w0 (fun _ h9 => h9) rfl dX7_open_21 ?_
  refine lv_iload_n hx hb dX7_open_24 rfl (lv_at hl 4 rfl) ?_
  refine mq_aald (t0 := 5) (v := .ref (ad 7 j k)) hx hb hK hM rfl y6_98 (vp_in_nI (by omega) (by omega)) (by rw [show (nI k : Int32).toNatClampNeg = k from nI_clamp (by omega)]; exact congrArg va_rf (rf_at (by omega))) dX7_open_25 ?_
  refine lv_iconst (v := 1) hx hb dX7_open_26 (by decide) ?_
  refine mq_put (ci := 9) (v := .int 1) (ty := .boolean) (C := RX4) (T := TX4) (N := 7) (fs' := [.int (nI (mOd (aM S j k))), .int (nI ((mAn (aM S j k)).length)), .int (du (mDu (aM S j k))), .int 1, .int (nI (mTo (aM S j k))), .int (nI (mRo (aM S j k))), .ref (ad 8 j k)]) hx hb hts nX4 tyX4 tyX4_ok nmX4 hown hK hM hS y7_99 rfl 3 (by decide) w1 (fun _ h9 => h9) rfl (by decide +kernel) rfl rfl (Nat.le_of_ble_eq_true rfl) dX7_open_27 rfl (fun f_1 H locs e_2 hM hS => ?_)
  have h_3 : f_1 (ad 5 j 0) = some (.inr (8, [.ref (ad 6 j 0), va_rf (oMap (lEx (aE S j)) (ad 10 j 0)), va_rf (oMap (lWs (aE S j)) (ad 12 j 0)), .ref (ad 9 j 0), .int (nI (xOl X j))])) := mq_n e_2 y5_97 (mq_neO y5_97 y7_99 (by decide))
  have h_4 : f_1 (ad 6 j 0) = some (.inl (G.2 5, 10, .inr (.inr (.inr (.inr (rf_of 10 (fun i => ad 7 j i))))))) := mq_n e_2 y6_98 (mq_neB y6_98 y7_99)
  have h_5 : f_1 (ad 7 j k) = some (.inr (9, [.int (nI (mOd (aM S j k))), .int (nI ((mAn (aM S j k)).length)), .int (du (mDu (aM S j k))), .int 1, .int (nI (mTo (aM S j k))), .int (nI (mRo (aM S j k))), .ref (ad 8 j k)])) := mq_s e_2
  refine lv_iload hx hb dX7_open_30 (lv_at hl 0 rfl) ?_
  refine lv_if_ne (tgt := 39) hx hb dX7_open_32 (by decide) (fun c_32 => ?_) (fun c_32 => ?_)
  · replace c_32 : ¬ zb (opn S j k) = 0 := c_32
    rw [zb_n0] at c_32
    refine lv_iconst (v := 0) hx hb dX7_open_39 (by decide) ?_
    refine vx_ret ?_
    exact mq_zret (v := 0) hx hb hr (rfl) hlocks hM hS (⟨_, X, (spLS_y hj hk hl4 hn).trans (by rw [c_32]; rfl), WR_ma hR (mOd (aM S j k), mTo (aM S j k), mAn (aM S j k), true, mRo (aM S j k), mDu (aM S j k)) hj (by omega) e_2, ok_open hO hT5 hj hk⟩) dX7_open_40
  · replace c_32 : zb (opn S j k) = 0 := c_32
    rw [zb_0] at c_32
    refine lv_iconst (v := 1) hx hb dX7_open_35 (by decide) ?_
    refine lv_goto (tgt := 40) hx hb dX7_open_36 (by decide) ?_
    refine vx_ret ?_
    exact mq_zret (v := 1) hx hb hr (rfl) hlocks hM hS (⟨_, X, (spLS_y hj hk hl4 hn).trans (by rw [c_32]; rfl), WR_ma hR (mOd (aM S j k), mTo (aM S j k), mAn (aM S j k), true, mRo (aM S j k), mDu (aM S j k)) hj (by omega) e_2, ok_open hO hT5 hj hk⟩) dX7_open_40

set_option maxHeartbeats 4000000 in
set_option maxRecDepth 100000 in
theorem c_X7_setOdds (l : Launch) (hfl : l.stackTraces = false) (G : mq_G) (A : Nat → Prop) (f : mq_F) (ad : AD) (S : AT) (X : CX) (S2 : AT) (Y : MX) (O : OX) (T : Nat) (ua ub uc : Int32) : vx_Met l yX7_setOdds wsX7_setOdds ({ frames := 9, cells := 3, slots := 18, locals := 164 } : Room) (mq_Pc G A f (WR G f ad S X S2 Y O ∧ cOK S X T ∧ T < 512) [.ref (ad 0 0 0), .int ua, .int ub, .int uc]) (mq_Qi G A (fun r g => ∃ S9 X9, spSet S ua ub uc = (0, r, S9) ∧ WR G g ad S9 X9 S2 Y O ∧ cOK S9 X9 (T + 1))) (mq_X G A (fun E g => f = g ∧ ((spSet S ua ub uc).1 = 1 ∧ E = "java/lang/IndexOutOfBoundsException" ∨ (spSet S ua ub uc).1 = 2 ∧ E = "java/lang/IllegalArgumentException"))) 3 18 A := by
  refine vx_ofW (cc := cX7_setOdds) (maxL := 6) (ret := (some .int)) (by decide) rfl ?_
  intro p e s m args below meth c s₁ B hml ht9 hv
  obtain ⟨rfl, ⟨hK, hZ, hM, hA⟩, hp⟩ := hv
  have hx := B.exec
  have hb := B.bytes
  have hr := B.returns
  have hts := atoms_spec (ws := wsX7_setOdds) B.pre
  have hown : s.vm.findClass RX7 = some m.cls := findClass_of_methodNamed B.named
  have hlocks := B.notSynchronized
  have hS : va_S A s.heap s.heap [] := va_S.rf
  have hl := lv_entry ([.ref (ad 0 0 0), .int ua, .int ub, .int uc]) (n := 6) (Nat.le_of_ble_eq_true rfl)
  rw [lg_entry_eq]
  generalize (lg_sl ([.ref (ad 0 0 0), .int ua, .int ub, .int uc]) ++ List.replicate (6 - (lg_sl ([.ref (ad 0 0 0), .int ua, .int ub, .int uc])).length) Slot.unset).toArray = ls at hl ⊢
  have hl : lv_has ls 6 [(0, .ref (ad 0 0 0)), (1, .int ua), (2, .int ub), (3, .int uc)] := hl
  have w0 := hts (.classLink RX7 54 "java/lang/IllegalArgumentException") (List.mem_of_getElem? (i := 1) rfl)
  have w1 := hts (.initialized "java/lang/IllegalArgumentException") (List.mem_of_getElem? (i := 2) rfl)
  have w2 := hts (.fieldLink RX7 96 "Tutorlight$Mastery" "odds" "I") (List.mem_of_getElem? (i := 3) rfl)
  have nX4 : ∀ w ∈ wsX40, w ∈ wsX7_setOdds := fun _ h => List.mem_cons_of_mem _ (List.mem_append_left _ (List.mem_append_left _ (List.mem_append_left _ (List.mem_append_left _ (List.mem_append_right _ h)))))
  obtain ⟨hR, hO, hT5⟩ := hp
  obtain ⟨⟨hn, hl4, hd2, hT⟩, hsk, hma, hdc, hle, hxb⟩ := id hO
  have y0_102 := hR.1 _ _ _ _ (t0)
  refine lv_aload_n hx hb dX7_setOdds_0 rfl (lv_at hl 0 rfl) ?_
  refine lv_iload_n hx hb dX7_setOdds_1 rfl (lv_at hl 1 rfl) ?_
  refine lv_iload_n hx hb dX7_setOdds_2 rfl (lv_at hl 2 rfl) ?_
  refine mq_xcallq (vx_runV (As := [.int ua, .int ub]) (rest := []) ⟨hx, hb, hml, hown, hts⟩ (c_X7_masteryAt l hfl G A f ad S X S2 Y O T ua ub) (cwV 2 hts gX7_setOdds_X7_masteryAt rfl rfl rfl (by decide +kernel) ⟨Nat.le_of_ble_eq_true rfl, Nat.le_of_ble_eq_true rfl⟩) (mq_preV hK hZ hS hA hM (q := (RX7, TX7, 6)) y0_102 rfl (⟨hR, hO⟩) _) rfl rfl hl.1 rfl (lv_room (Nat.le_of_ble_eq_true rfl)) dX7_setOdds_3 ⟨Nat.le_of_ble_eq_true rfl, Nat.le_of_ble_eq_true rfl⟩) hS (fun E ce q9 g3 H locs p3 hM hS hce hcv hcl => ?_) (fun r3 g3 H locs p3 hM hS => ?_)
  · obtain ⟨rfl, rfl, q9⟩ := p3
    exact mq_out (List.eq_nil_iff_forall_not_mem.mpr fun x hx => ht9 x hx) hlocks hce hcv hcl hM hS (⟨rfl, Or.inl (⟨congrArg Prod.fst (spLS_n q9), rfl⟩)⟩) (Nat.le_of_ble_eq_true rfl) (Nat.le_of_ble_eq_true rfl)
  refine W.widen (k := 2) (n := 12) (Nat.le_of_ble_eq_true rfl) (Nat.le_of_ble_eq_true rfl) ?_
  obtain ⟨rfl, j, k, hj, hk, rfl, rfl, rfl⟩ := p3
  refine lv_astore (lv' := [(4, .ref (ad 7 j k)), (0, .ref (ad 0 0 0)), (1, .int (nI j)), (2, .int (nI k)), (3, .int uc)]) hx hb dX7_setOdds_6 hl (by decide) rfl (fun ls hl => ?_)
  refine lv_iload_n hx hb dX7_setOdds_8 rfl (lv_at hl 4 rfl) ?_
  refine lv_if_lt (tgt := 19) hx hb dX7_setOdds_9 (by decide) (fun c_9 => ?_) (fun c_9 => ?_)
  · obtain ⟨sa, hsa⟩ := mq_str hZ (own := RX7) (k := 94) (tx := "odds out of range") (by decide +kernel)
    refine vx_throwS (A := A) (own := RX7) (cls := "java/lang/IllegalArgumentException") (text := "odds out of range") (names := ["java/lang/RuntimeException", "java/lang/Exception"]) (ik := 54) (is := 94) (ic := 58) hx hb hfl hown (by decide +kernel) (by decide +kernel) w0 w1 hsa (mq_hat hZ (fun w h => hts w (List.mem_cons_of_mem _ (List.mem_append_left _ (List.mem_append_right _ h)))) (by decide +kernel)) (by decide +kernel) hZ.1.1 hZ.1.2 hS (by rw [hml]; exact hl.1) dX7_setOdds_19 dX7_setOdds_22 dX7_setOdds_23 dX7_setOdds_25 dX7_setOdds_28 (fun x hx => (ht9 x hx).elim) (Nat.le_of_ble_eq_true rfl) (Nat.le_of_ble_eq_true rfl) (Nat.le_of_ble_eq_true rfl) (Nat.le_of_ble_eq_true rfl) hlocks (fun t9 hv9 hz9 hq9 => mq_thrown hM hS hz9 hq9 (⟨rfl, Or.inr (⟨congrArg Prod.fst (show spSet S (nI j) (nI k) uc = ((2, 0, S) : Nat × Int32 × AT) from (spLS_y hj hk hl4 hn).trans (if_neg (by rw [vI_iff]; exact fun q => q (Or.inl c_9)))), rfl⟩)⟩)) hS.2.2 (Nat.le_of_ble_eq_true rfl) (Nat.le_of_ble_eq_true rfl)
  · obtain ⟨o, ho31, rfl⟩ := nI_of c_9
    refine lv_iload_n hx hb dX7_setOdds_12 rfl (lv_at hl 4 rfl) ?_
    refine lv_sipush (v := 1000) hx hb dX7_setOdds_13 (by decide) ?_
    refine lv_icmp_le (tgt := 29) hx hb dX7_setOdds_16 (by decide) (fun c_16 => ?_) (fun c_16 => ?_)
    · replace c_16 : nI o ≤ nI 1000 := c_16
      rw [nI_leI (by omega) (by omega)] at c_16
      have y7_101 := hR.1 _ _ _ _ (t7 (j := j) (k := k) hj (by omega))
      refine lv_aload hx hb dX7_setOdds_29 (lv_at hl 0 rfl) ?_
      refine mq_get (ci := 9) (v := .int (nI (mOd (aM S j k)))) (C := RX4) (T := TX4) (N := 7) hx hb hts nX4 hown hK hM y7_101 rfl 0 (by decide) w2 (fun _ h9 => h9) rfl dX7_setOdds_31 ?_
      refine lv_istore (lv' := [(5, .int (nI (mOd (aM S j k)))), (4, .ref (ad 7 j k)), (0, .ref (ad 0 0 0)), (1, .int (nI j)), (2, .int (nI k)), (3, .int (nI o))]) hx hb dX7_setOdds_34 hl (by decide) rfl (fun ls hl => ?_)
      refine lv_aload hx hb dX7_setOdds_36 (lv_at hl 1 rfl) ?_
      refine lv_iload_n hx hb dX7_setOdds_38 rfl (lv_at hl 5 rfl) ?_
      refine mq_callv (va_runV (As := [.int (nI o)]) (rest := []) ⟨hx, hb, hml, hown, hts⟩ (c_X4_tellOdds l G A f (ad 7 j k) o (mOd (aM S j k)) (mDu (aM S j k)) (mTo (aM S j k)) (mRo (aM S j k)) (mOp (aM S j k)) (mAn (aM S j k)) (ad 8 j k)) (cwV 1 hts gX7_setOdds_X4_tellOdds rfl rfl rfl (by decide +kernel) ⟨Nat.le_of_ble_eq_true rfl, Nat.le_of_ble_eq_true rfl⟩) (mq_preV hK hZ hS hA hM (q := (RX4, TX4, 7)) y7_101 rfl (y7_101) _) rfl rfl hl.1 rfl (lv_room (Nat.le_of_ble_eq_true rfl)) dX7_setOdds_39 ⟨Nat.le_of_ble_eq_true rfl, Nat.le_of_ble_eq_true rfl⟩) hS (fun g39 H locs p39 hM hS => ?_)
      refine W.widen (k := 2) (n := 12) (Nat.le_of_ble_eq_true rfl) (Nat.le_of_ble_eq_true rfl) ?_
      refine lv_iload hx hb dX7_setOdds_42 (lv_at hl 0 rfl) ?_
      refine vx_ret ?_
      refine W.widen (k := 3) (n := 18) (Nat.le_of_ble_eq_true rfl) (Nat.le_of_ble_eq_true rfl) ?_
      exact mq_iret (v := nI (mOd (aM S j k))) hx hb hr hlocks hM hS (⟨_, X, (spLS_y hj hk hl4 hn).trans ((if_pos (vI_nI (by omega) (by decide))).trans (by rw [nI_clamp (by omega)])), WR_ma hR (o, o, [], mOp (aM S j k), mRo (aM S j k), mDu (aM S j k)) hj (by omega) p39, ok_set hO hT5 hj hk c_16⟩) dX7_setOdds_44
    · replace c_16 : ¬ nI o ≤ nI 1000 := c_16
      rw [nI_leI (by omega) (by omega)] at c_16
      obtain ⟨sa, hsa⟩ := mq_str hZ (own := RX7) (k := 94) (tx := "odds out of range") (by decide +kernel)
      refine vx_throwS (A := A) (own := RX7) (cls := "java/lang/IllegalArgumentException") (text := "odds out of range") (names := ["java/lang/RuntimeException", "java/lang/Exception"]) (ik := 54) (is := 94) (ic := 58) hx hb hfl hown (by decide +kernel) (by decide +kernel) w0 w1 hsa (mq_hat hZ (fun w h => hts w (List.mem_cons_of_mem _ (List.mem_append_left _ (List.mem_append_right _ h)))) (by decide +kernel)) (by decide +kernel) hZ.1.1 hZ.1.2 hS (by rw [hml]; exact hl.1) dX7_setOdds_19 dX7_setOdds_22 dX7_setOdds_23 dX7_setOdds_25 dX7_setOdds_28 (fun x hx => (ht9 x hx).elim) (Nat.le_of_ble_eq_true rfl) (Nat.le_of_ble_eq_true rfl) (Nat.le_of_ble_eq_true rfl) (Nat.le_of_ble_eq_true rfl) hlocks (fun t9 hv9 hz9 hq9 => mq_thrown hM hS hz9 hq9 (⟨rfl, Or.inr (⟨congrArg Prod.fst (show spSet S (nI j) (nI k) (nI o) = ((2, 0, S) : Nat × Int32 × AT) from (spLS_y hj hk hl4 hn).trans (if_neg (by rw [vI_iff]; exact fun q => by rw [vp_in_iff, nI_toInt (by omega)] at q; omega))), rfl⟩)⟩)) hS.2.2 (Nat.le_of_ble_eq_true rfl) (Nat.le_of_ble_eq_true rfl)

set_option maxHeartbeats 4000000 in
set_option maxRecDepth 100000 in
theorem c_X7_nextDay (l : Launch) (hfl : l.stackTraces = false) (G : mq_G) (A : Nat → Prop) (f : mq_F) (ad : AD) (S : AT) (X : CX) (S2 : AT) (Y : MX) (O : OX) (T : Nat)  : vx_Met l yX7_nextDay wsX7_nextDay ({ frames := 7, cells := 1, slots := 6, locals := 120 } : Room) (mq_Pc G A f (WR G f ad S X S2 Y O ∧ cOK S X T ∧ T < 512) [.ref (ad 0 0 0)]) (mq_Qi G A (fun r g => ∃ S9 X9, spDay S = (0, r, S9) ∧ WR G g ad S9 X9 S2 Y O ∧ cOK S9 X9 (T + 1))) (mq_X G A (fun E g => f = g ∧ ((spDay S).1 = 1 ∧ E = "java/lang/ArithmeticException"))) 1 6 A := by
  refine vx_ofW (cc := cX7_nextDay) (maxL := 1) (ret := (some .int)) (by decide) rfl ?_
  intro p e s m args below meth c s₁ B hml ht9 hv
  obtain ⟨rfl, ⟨hK, hZ, hM, hA⟩, hp⟩ := hv
  have hx := B.exec
  have hb := B.bytes
  have hr := B.returns
  have hts := atoms_spec (ws := wsX7_nextDay) B.pre
  have hown : s.vm.findClass RX7 = some m.cls := findClass_of_methodNamed B.named
  have hlocks := B.notSynchronized
  have hS : va_S A s.heap s.heap [] := va_S.rf
  have hl := lv_entry ([.ref (ad 0 0 0)]) (n := 1) (Nat.le_of_ble_eq_true rfl)
  rw [lg_entry_eq]
  generalize (lg_sl ([.ref (ad 0 0 0)]) ++ List.replicate (1 - (lg_sl ([.ref (ad 0 0 0)])).length) Slot.unset).toArray = ls at hl ⊢
  have hl : lv_has ls 1 [(0, .ref (ad 0 0 0))] := hl
  have w0 := hts (.fieldLink RX7 117 "Tutorlight" "day" "I") (List.mem_of_getElem? (i := 3) rfl)
  have w1 := hts (.classLink RX7 120 "java/lang/ArithmeticException") (List.mem_of_getElem? (i := 1) rfl)
  have w2 := hts (.initialized "java/lang/ArithmeticException") (List.mem_of_getElem? (i := 2) rfl)
  have nX7 : ∀ w ∈ wsX70, w ∈ wsX7_nextDay := fun _ h => List.mem_cons_of_mem _ (List.mem_append_left _ (List.mem_append_right _ h))
  obtain ⟨hR, hO, hT5⟩ := hp
  obtain ⟨⟨hn, hl4, hd2, hT⟩, hsk, hma, hdc, hle, hxb⟩ := id hO
  have y0_103 := hR.1 _ _ _ _ (t0)
  refine lv_aload_n hx hb dX7_nextDay_0 rfl (lv_at hl 0 rfl) ?_
  refine mq_get (ci := 12) (v := .int (nI (aD S))) (C := RX7) (T := TX7) (N := 6) hx hb hts nX7 hown hK hM y0_103 rfl 5 (by decide) w0 (fun _ h9 => h9) rfl dX7_nextDay_1 ?_
  refine lv_sipush (v := 200) hx hb dX7_nextDay_4 (by decide) ?_
  refine lv_icmp_lt (tgt := 20) hx hb dX7_nextDay_7 (by decide) (fun c_7 => ?_) (fun c_7 => ?_)
  · replace c_7 : nI (aD S) < nI 200 := c_7
    rw [nI_ltI (by omega) (by omega)] at c_7
    refine lv_aload_n hx hb dX7_nextDay_20 rfl (lv_at hl 0 rfl) ?_
    refine lv_dup hx hb dX7_nextDay_21 rfl ?_
    refine mq_get (ci := 12) (v := .int (nI (aD S))) (C := RX7) (T := TX7) (N := 6) hx hb hts nX7 hown hK hM y0_103 rfl 5 (by decide) w0 (fun _ h9 => h9) rfl dX7_nextDay_22 ?_
    refine lv_iconst (v := 1) hx hb dX7_nextDay_25 (by decide) ?_
    refine lv_iadd hx hb dX7_nextDay_26 ?_
    rw [show (nI (aD S)) + 1 = nI ((aD S) + 1) from nI_add _ _]
    refine mq_put (ci := 12) (v := .int (nI ((aD S) + 1))) (ty := .int) (C := RX7) (T := TX7) (N := 6) (fs' := [.ref (ad 1 0 0), .ref (ad 2 0 0), .ref (ad 3 0 0), .int (nI (aN S)), .int (nI (aL S)), .int (nI ((aD S) + 1))]) hx hb hts nX7 tyX7 tyX7_ok nmX7 hown hK hM hS y0_103 rfl 5 (by decide) w0 (fun _ h9 => h9) rfl (by decide +kernel) rfl rfl (Nat.le_of_ble_eq_true rfl) dX7_nextDay_27 rfl (fun f_1 H locs e_2 hM hS => ?_)
    have h_3 : f_1 (ad 0 0 0) = some (.inr (12, [.ref (ad 1 0 0), .ref (ad 2 0 0), .ref (ad 3 0 0), .int (nI (aN S)), .int (nI (aL S)), .int (nI ((aD S) + 1))])) := mq_s e_2
    refine lv_aload_n hx hb dX7_nextDay_30 rfl (lv_at hl 0 rfl) ?_
    refine mq_get (ci := 12) (v := .int (nI ((aD S) + 1))) (C := RX7) (T := TX7) (N := 6) hx hb hts nX7 hown hK hM h_3 rfl 5 (by decide) w0 (fun _ h9 => h9) rfl dX7_nextDay_31 ?_
    refine vx_ret ?_
    refine W.widen (k := 1) (n := 6) (Nat.le_of_ble_eq_true rfl) (Nat.le_of_ble_eq_true rfl) ?_
    exact mq_iret (v := nI ((aD S) + 1)) hx hb hr hlocks hM hS (⟨_, X, if_pos c_7, WR_day hR (aD S + 1) e_2, ok_day hO hT5 c_7⟩) dX7_nextDay_34
  · replace c_7 : ¬ nI (aD S) < nI 200 := c_7
    rw [nI_ltI (by omega) (by omega)] at c_7
    obtain ⟨sa, hsa⟩ := mq_str hZ (own := RX7) (k := 122) (tx := "no day behind the last one") (by decide +kernel)
    refine vx_throwS (A := A) (own := RX7) (cls := "java/lang/ArithmeticException") (text := "no day behind the last one") (names := ["java/lang/RuntimeException", "java/lang/Exception"]) (ik := 120) (is := 122) (ic := 124) hx hb hfl hown (by decide +kernel) (by decide +kernel) w1 w2 hsa (mq_hat hZ (fun w h => hts w (List.mem_cons_of_mem _ (List.mem_append_right _ h))) (by decide +kernel)) (by decide +kernel) hZ.1.1 hZ.1.2 hS (by rw [hml]; exact hl.1) dX7_nextDay_10 dX7_nextDay_13 dX7_nextDay_14 dX7_nextDay_16 dX7_nextDay_19 (fun x hx => (ht9 x hx).elim) (Nat.le_of_ble_eq_true rfl) (Nat.le_of_ble_eq_true rfl) (Nat.le_of_ble_eq_true rfl) (Nat.le_of_ble_eq_true rfl) hlocks (fun t9 hv9 hz9 hq9 => mq_thrown hM hS hz9 hq9 (⟨rfl, ⟨congrArg Prod.fst (show spDay S = ((1, 0, S) : Nat × Int32 × AT) from if_neg c_7), rfl⟩⟩)) hS.2.2 (Nat.le_of_ble_eq_true rfl) (Nat.le_of_ble_eq_true rfl)

set_option maxHeartbeats 4000000 in
set_option maxRecDepth 100000 in
theorem c_X7_noteAnswer (l : Launch) (G : mq_G) (A : Nat → Prop) (f : mq_F) (ad : AD) (S : AT) (X : CX) (S2 : AT) (Y : MX) (O : OX) (T : Nat) (j k : Nat) (z : Bool) : Met l yX7_noteAnswer wsX7_noteAnswer ({ frames := 2, cells := 0, slots := 0, locals := 60 } : Room) (mq_Pc G A f (WR G f ad S X S2 Y O ∧ cOK S X T ∧ j < aL S ∧ k < aN S ∧ T < 512) [.ref (ad 0 0 0), .ref (ad 5 j 0), .int (nI k), .int (zb z)]) (mq_Qv G A (fun g => WR G g ad (nsNote S j k z) (sW X j k (wr (xW X j k) (mAn (aM S j k)).length z)) S2 Y O)) 0 0 A := by
  refine Met.ofW (cc := cX7_noteAnswer) (maxL := 5) (ret := none) (by decide) rfl ?_
  intro p e s m args below meth c s₁ B hml hv
  obtain ⟨rfl, ⟨hK, hZ, hM, hA⟩, hp⟩ := hv
  have hx := B.exec
  have hb := B.bytes
  have hr := B.returns
  have hts := atoms_spec (ws := wsX7_noteAnswer) B.pre
  have hown : s.vm.findClass RX7 = some m.cls := findClass_of_methodNamed B.named
  have hlocks := B.notSynchronized
  have hS : va_S A s.heap s.heap [] := va_S.rf
  have hl := lv_entry ([.ref (ad 0 0 0), .ref (ad 5 j 0), .int (nI k), .int (zb z)]) (n := 5) (Nat.le_of_ble_eq_true rfl)
  rw [lg_entry_eq]
  generalize (lg_sl ([.ref (ad 0 0 0), .ref (ad 5 j 0), .int (nI k), .int (zb z)]) ++ List.replicate (5 - (lg_sl ([.ref (ad 0 0 0), .ref (ad 5 j 0), .int (nI k), .int (zb z)])).length) Slot.unset).toArray = ls at hl ⊢
  have hl : lv_has ls 5 [(0, .ref (ad 0 0 0)), (1, .ref (ad 5 j 0)), (2, .int (nI k)), (3, .int (zb z))] := hl
  have w0 := hts (.fieldLink RX7 80 "Tutorlight$Learner" "masteries" "[LTutorlight$Mastery;") (List.mem_of_getElem? (i := 1) rfl)
  have w1 := hts (.fieldLink RX7 11 "Tutorlight" "skills" "[LTutorlight$Skill;") (List.mem_of_getElem? (i := 2) rfl)
  have w2 := hts (.fieldLink RX7 117 "Tutorlight" "day" "I") (List.mem_of_getElem? (i := 3) rfl)
  have w3 := hts (.fieldLink RX7 134 "Tutorlight$Mastery" "dueDay" "I") (List.mem_of_getElem? (i := 4) rfl)
  have nX3 : ∀ w ∈ wsX30, w ∈ wsX7_noteAnswer := fun _ h => List.mem_cons_of_mem _ (List.mem_append_left _ (List.mem_append_left _ (List.mem_append_left _ (List.mem_append_left _ (List.mem_append_left _ (List.mem_append_right _ h))))))
  have nX7 : ∀ w ∈ wsX70, w ∈ wsX7_noteAnswer := fun _ h => List.mem_cons_of_mem _ (List.mem_append_left _ (List.mem_append_left _ (List.mem_append_left _ (List.mem_append_left _ (List.mem_append_right _ h)))))
  have nX4 : ∀ w ∈ wsX40, w ∈ wsX7_noteAnswer := fun _ h => List.mem_cons_of_mem _ (List.mem_append_left _ (List.mem_append_left _ (List.mem_append_left _ (List.mem_append_right _ h))))
  obtain ⟨hR, hO, hj, hk, hT5⟩ := hp
  obtain ⟨⟨hn, hl4, hd2, hT⟩, hsk, hma, hdc, hle, hxb⟩ := id hO
  obtain ⟨m1, m2, m3, m4, m5, m6, m7, m8⟩ := hma j k hj (by omega)
  have y0_104 := hR.1 _ _ _ _ (t0)
  have y1_105 := hR.1 _ _ _ _ (t1)
  have y5_106 := hR.1 _ _ _ _ (t5 (j := j) hj)
  have y6_107 := hR.1 _ _ _ _ (t6 (j := j) hj)
  have y7_108 := hR.1 _ _ _ _ (t7 (j := j) (k := k) hj (by omega))
  have y8_109 := hR.1 _ _ _ _ (t8 (j := j) (k := k) hj (by omega))
  have y4_110 := hR.1 _ _ _ _ (t4 (j := k) hk)
  refine lv_aload_n hx hb dX7_noteAnswer_0 rfl (lv_at hl 1 rfl) ?_
  refine mq_get (ci := 8) (v := .ref (ad 6 j 0)) (C := RX3) (T := TX3) (N := 5) hx hb hts nX3 hown hK hM y5_106 rfl 0 (by decide) w0 (fun _ h9 => h9) rfl dX7_noteAnswer_1 ?_
  refine lv_iload_n hx hb dX7_noteAnswer_4 rfl (lv_at hl 2 rfl) ?_
  refine mq_aald (t0 := 5) (v := .ref (ad 7 j k)) hx hb hK hM rfl y6_107 (vp_in_nI (by omega) (by omega)) (by rw [show (nI k : Int32).toNatClampNeg = k from nI_clamp (by omega)]; exact congrArg va_rf (rf_at (by omega))) dX7_noteAnswer_5 ?_
  refine lv_astore (lv' := [(4, .ref (ad 7 j k)), (0, .ref (ad 0 0 0)), (1, .ref (ad 5 j 0)), (2, .int (nI k)), (3, .int (zb z))]) hx hb dX7_noteAnswer_6 hl (by decide) rfl (fun ls hl => ?_)
  refine lv_aload hx hb dX7_noteAnswer_8 (lv_at hl 0 rfl) ?_
  refine lv_aload_n hx hb dX7_noteAnswer_10 rfl (lv_at hl 1 rfl) ?_
  refine mq_get (ci := 12) (v := .ref (ad 1 0 0)) (C := RX7) (T := TX7) (N := 6) hx hb hts nX7 hown hK hM y0_104 rfl 0 (by decide) w1 (fun _ h9 => h9) rfl dX7_noteAnswer_11 ?_
  refine lv_iload_n hx hb dX7_noteAnswer_14 rfl (lv_at hl 3 rfl) ?_
  refine mq_aald (t0 := 6) (v := .ref (ad 4 k 0)) hx hb hK hM rfl y1_105 (vp_in_nI (by omega) (by omega)) (by rw [show (nI k : Int32).toNatClampNeg = k from nI_clamp (by omega)]; exact congrArg va_rf (rf_at (by omega))) dX7_noteAnswer_15 ?_
  refine lv_iload_n hx hb dX7_noteAnswer_16 rfl (lv_at hl 4 rfl) ?_
  refine mq_callv (va_runV (As := [.ref (ad 4 k 0), .int (zb z)]) (rest := []) ⟨hx, hb, hml, hown, hts⟩ (c_X4_noteAnswer l G A f (ad 7 j k) (ad 4 k 0) (mOd (aM S j k)) (mDu (aM S j k)) (mTo (aM S j k)) (mRo (aM S j k)) (mOp (aM S j k)) (mAn (aM S j k)) (ad 8 j k) (aS S k).1 (aS S k).2.1 (aS S k).2.2.1 (aS S k).2.2.2 (xW X j k) z) (cwV 2 hts gX7_noteAnswer_X4_noteAnswer rfl rfl rfl (by decide +kernel) ⟨Nat.le_of_ble_eq_true rfl, Nat.le_of_ble_eq_true rfl⟩) (mq_preV hK hZ hS hA hM (q := (RX4, TX4, 7)) y7_108 rfl (⟨⟨y7_108, y8_109, y4_110⟩, (hsk k hk).1, (hsk k hk).2.1, (hsk k hk).2.2.1, m1, by omega⟩) _) rfl rfl hl.1 rfl (lv_room (Nat.le_of_ble_eq_true rfl)) dX7_noteAnswer_17 ⟨Nat.le_of_ble_eq_true rfl, Nat.le_of_ble_eq_true rfl⟩) hS (fun g17 H locs p17 hM hS => ?_)
  refine W.widen (k := 0) (n := 0) (Nat.le_of_ble_eq_true rfl) (Nat.le_of_ble_eq_true rfl) ?_
  obtain ⟨f8, e8⟩ : ∃ h, h = mq_up f (ad 8 j k) (cWo G (wr (xW X j k) (mAn (aM S j k)).length z)) := ⟨_, rfl⟩
  rw [← e8] at p17
  have hR1 : WR G g17 ad (sMa S j k (mv (aS S k).1 (aS S k).2.1 (aS S k).2.2.1 (mOd (aM S j k)) z, mTo (aM S j k), mAn (aM S j k) ++ [z], mOp (aM S j k), nRow z (mRo (aM S j k)), mDu (aM S j k))) (sW X j k (wr (xW X j k) (mAn (aM S j k)).length z)) S2 Y O := WR_ma (WR_wo hR _ hj (by omega) e8) (mv (aS S k).1 (aS S k).2.1 (aS S k).2.2.1 (mOd (aM S j k)) z, mTo (aM S j k), mAn (aM S j k) ++ [z], mOp (aM S j k), nRow z (mRo (aM S j k)), mDu (aM S j k)) hj (by omega) (by rw [p17]; show _ = mq_up f8 (ad 7 j k) (cMa _ (mAn (aM S j k) ++ [z]).length _ _ _ _ _); rw [List.length_append]; rfl)
  have hO1 : cOK (sMa S j k (mv (aS S k).1 (aS S k).2.1 (aS S k).2.2.1 (mOd (aM S j k)) z, mTo (aM S j k), mAn (aM S j k) ++ [z], mOp (aM S j k), nRow z (mRo (aM S j k)), mDu (aM S j k))) (sW X j k (wr (xW X j k) (mAn (aM S j k)).length z)) (T + 1) := ok_ma hO hT5 hj hk ⟨fun _ _ e => fU2_n e, rfl, rfl, rfl⟩ ⟨mv_le m1 (hsk k hk).2.2.1, m2, by show (mAn (aM S j k) ++ [z]).length ≤ T + 1; rw [List.length_append]; simp; exact m3, by show nRow z (mRo (aM S j k)) ≤ T + 1; unfold nRow; split <;> omega, m5, by show tie (fU2 (xW X) j k _ j k) _; rw [fU2_s]; exact tie_add z m6, fun _ => by show mv _ _ _ _ _ = mvs _ _ _ (mTo (aM S j k)) (mAn (aM S j k) ++ [z]); rw [mvs_snoc, ← m7 hk], fun q => absurd hk (by omega)⟩ (Or.inl rfl)
  have y7 := mq_s p17
  have y0 : g17 (ad 0 0 0) = some (.inr (12, [.ref (ad 1 0 0), .ref (ad 2 0 0), .ref (ad 3 0 0), .int (nI (aN S)), .int (nI (aL S)), .int (nI (aD S))])) := hR1.1 _ _ _ _ t0
  have hrw : nRow z (mRo (aM S j k)) < 2 ^ 30 := by unfold nRow; split <;> omega
  have hdw := dw_le (nRow z (mRo (aM S j k)))
  refine lv_aload hx hb dX7_noteAnswer_20 (lv_at hl 0 rfl) ?_
  refine lv_aload_n hx hb dX7_noteAnswer_22 rfl (lv_at hl 1 rfl) ?_
  refine lv_aload_n hx hb dX7_noteAnswer_23 rfl (lv_at hl 2 rfl) ?_
  refine lv_iload_n hx hb dX7_noteAnswer_24 rfl (lv_at hl 3 rfl) ?_
  refine lv_aload_n hx hb dX7_noteAnswer_25 rfl (lv_at hl 1 rfl) ?_
  refine mq_get (ci := 12) (v := .int (nI (aD S))) (C := RX7) (T := TX7) (N := 6) hx hb hts nX7 hown hK hM y0 rfl 5 (by decide) w2 (fun _ h9 => h9) rfl dX7_noteAnswer_26 ?_
  refine lv_aload hx hb dX7_noteAnswer_29 (lv_at hl 0 rfl) ?_
  refine mq_calli (va_runV (As := []) (rest := [.int (nI (aD S)), .int (nI k), .ref (ad 5 j 0), .ref (ad 0 0 0), .ref (ad 7 j k)]) ⟨hx, hb, hml, hown, hts⟩ (c_X4_daysToWait l G A g17 (ad 7 j k) (mv (aS S k).1 (aS S k).2.1 (aS S k).2.2.1 (mOd (aM S j k)) z) (mDu (aM S j k)) (mTo (aM S j k)) (nRow z (mRo (aM S j k))) (mOp (aM S j k)) (mAn (aM S j k) ++ [z]) (ad 8 j k)) (cwV 0 hts gX7_noteAnswer_X4_daysToWait rfl rfl rfl (by decide +kernel) ⟨Nat.le_of_ble_eq_true rfl, Nat.le_of_ble_eq_true rfl⟩) (mq_preV hK hZ hS hA hM (q := (RX4, TX4, 7)) y7 rfl (⟨by rw [List.length_append]; exact y7, hrw⟩) _) rfl rfl hl.1 rfl (lv_room (Nat.le_of_ble_eq_true rfl)) dX7_noteAnswer_31 ⟨Nat.le_of_ble_eq_true rfl, Nat.le_of_ble_eq_true rfl⟩) hS (fun r31 g31 H locs p31 hM hS => ?_)
  refine W.widen (k := 0) (n := 0) (Nat.le_of_ble_eq_true rfl) (Nat.le_of_ble_eq_true rfl) ?_
  obtain ⟨rfl, rfl⟩ := p31
  refine lv_iadd hx hb dX7_noteAnswer_34 ?_
  rw [show (nI (aD S)) + (nI (dw (nRow z (mRo (aM S j k))))) = nI ((aD S) + (dw (nRow z (mRo (aM S j k))))) from nI_add _ _]
  refine mq_calli (va_runV (As := [.ref (ad 5 j 0), .int (nI k), .int (nI ((aD S) + (dw (nRow z (mRo (aM S j k))))))]) (rest := [.ref (ad 7 j k)]) ⟨hx, hb, hml, hown, hts⟩ (c_X7_firstFreeDay l G A g17 ad (sMa S j k (mv (aS S k).1 (aS S k).2.1 (aS S k).2.2.1 (mOd (aM S j k)) z, mTo (aM S j k), mAn (aM S j k) ++ [z], mOp (aM S j k), nRow z (mRo (aM S j k)), mDu (aM S j k))) (sW X j k (wr (xW X j k) (mAn (aM S j k)).length z)) S2 Y O (T + 1) j k (aD S + dw (nRow z (mRo (aM S j k))))) (cwV 3 hts gX7_noteAnswer_X7_firstFreeDay rfl rfl rfl (by decide +kernel) ⟨Nat.le_of_ble_eq_true rfl, Nat.le_of_ble_eq_true rfl⟩) (mq_preV hK hZ hS hA hM (q := (RX7, TX7, 6)) y0 rfl (⟨hR1, hO1, hj, hk, by omega⟩) _) rfl rfl hl.1 rfl (lv_room (Nat.le_of_ble_eq_true rfl)) dX7_noteAnswer_35 ⟨Nat.le_of_ble_eq_true rfl, Nat.le_of_ble_eq_true rfl⟩) hS (fun r35 g35 H locs p35 hM hS => ?_)
  refine W.widen (k := 0) (n := 0) (Nat.le_of_ble_eq_true rfl) (Nat.le_of_ble_eq_true rfl) ?_
  obtain ⟨rfl, rfl⟩ := p35
  rw [ffP_sMa]
  rw [show ffd (ffP S j k) (aN (sMa S j k (mv (aS S k).1 (aS S k).2.1 (aS S k).2.2.1 (mOd (aM S j k)) z, mTo (aM S j k), mAn (aM S j k) ++ [z], mOp (aM S j k), nRow z (mRo (aM S j k)), mDu (aM S j k)))) (aD S + dw (nRow z (mRo (aM S j k)))) = nDay S j k z from rfl, ← du_S (nDay S j k z)]
  refine mq_put (ci := 9) (v := .int (du (nDay S j k z + 1))) (ty := .int) (C := RX4) (T := TX4) (N := 7) (fs' := [.int (nI (mv (aS S k).1 (aS S k).2.1 (aS S k).2.2.1 (mOd (aM S j k)) z)), .int (nI ((mAn (aM S j k)).length + 1)), .int (du (nDay S j k z + 1)), .int (zb (mOp (aM S j k))), .int (nI (mTo (aM S j k))), .int (nI (nRow z (mRo (aM S j k)))), .ref (ad 8 j k)]) hx hb hts nX4 tyX4 tyX4_ok nmX4 hown hK hM hS y7 rfl 2 (by decide) w3 (fun _ h9 => h9) rfl (by decide +kernel) rfl rfl (Nat.le_of_ble_eq_true rfl) dX7_noteAnswer_38 rfl (fun f_1 H locs e_2 hM hS => ?_)
  have h_3 : f_1 (ad 0 0 0) = some (.inr (12, [.ref (ad 1 0 0), .ref (ad 2 0 0), .ref (ad 3 0 0), .int (nI (aN S)), .int (nI (aL S)), .int (nI (aD S))])) := mq_n e_2 y0 (mq_neO y0 y7 (by decide))
  have h_4 : f_1 (ad 7 j k) = some (.inr (9, [.int (nI (mv (aS S k).1 (aS S k).2.1 (aS S k).2.2.1 (mOd (aM S j k)) z)), .int (nI ((mAn (aM S j k)).length + 1)), .int (du (nDay S j k z + 1)), .int (zb (mOp (aM S j k))), .int (nI (mTo (aM S j k))), .int (nI (nRow z (mRo (aM S j k)))), .ref (ad 8 j k)])) := mq_s e_2
  exact mq_vret hx hb hr hlocks hM hS (by have h9 := WR_ma (g := f_1) (j := j) (k := k) hR1 (nMa S j k z) hj (by omega) (by rw [e_2]; show _ = mq_up _ (ad 7 j k) (cMa _ (mAn (aM S j k) ++ [z]).length _ _ _ _ _); rw [List.length_append]; rfl); rw [sMa_sMa] at h9; exact h9) dX7_noteAnswer_41

set_option maxHeartbeats 4000000 in
set_option maxRecDepth 100000 in
theorem c_X7_answer (l : Launch) (hfl : l.stackTraces = false) (G : mq_G) (A : Nat → Prop) (f : mq_F) (ad : AD) (S : AT) (X : CX) (S2 : AT) (Y : MX) (O : OX) (T : Nat) (ua ub : Int32) (z : Bool) : vx_Met l yX7_answer wsX7_answer ({ frames := 8, cells := 3, slots := 18, locals := 142 } : Room) (mq_Pc G A f (WR G f ad S X S2 Y O ∧ cOK S X T ∧ T < 512) [.ref (ad 0 0 0), .int ua, .int ub, .int (zb z)]) (mq_Qi G A (fun r g => ∃ S9 X9, spAnswer S ua ub z = (0, r, S9) ∧ WR G g ad S9 X9 S2 Y O ∧ cOK S9 X9 (T + 1))) (mq_X G A (fun E g => f = g ∧ ((spAnswer S ua ub z).1 = 1 ∧ E = "java/lang/IndexOutOfBoundsException" ∨ (spAnswer S ua ub z).1 = 2 ∧ E = "java/lang/IllegalStateException"))) 3 18 A := by
  refine vx_ofW (cc := cX7_answer) (maxL := 5) (ret := (some .int)) (by decide) rfl ?_
  intro p e s m args below meth c s₁ B hml ht9 hv
  obtain ⟨rfl, ⟨hK, hZ, hM, hA⟩, hp⟩ := hv
  have hx := B.exec
  have hb := B.bytes
  have hr := B.returns
  have hts := atoms_spec (ws := wsX7_answer) B.pre
  have hown : s.vm.findClass RX7 = some m.cls := findClass_of_methodNamed B.named
  have hlocks := B.notSynchronized
  have hS : va_S A s.heap s.heap [] := va_S.rf
  have hl := lv_entry ([.ref (ad 0 0 0), .int ua, .int ub, .int (zb z)]) (n := 5) (Nat.le_of_ble_eq_true rfl)
  rw [lg_entry_eq]
  generalize (lg_sl ([.ref (ad 0 0 0), .int ua, .int ub, .int (zb z)]) ++ List.replicate (5 - (lg_sl ([.ref (ad 0 0 0), .int ua, .int ub, .int (zb z)])).length) Slot.unset).toArray = ls at hl ⊢
  have hl : lv_has ls 5 [(0, .ref (ad 0 0 0)), (1, .int ua), (2, .int ub), (3, .int (zb z))] := hl
  have w0 := hts (.fieldLink RX7 80 "Tutorlight$Learner" "masteries" "[LTutorlight$Mastery;") (List.mem_of_getElem? (i := 1) rfl)
  have w1 := hts (.fieldLink RX7 96 "Tutorlight$Mastery" "odds" "I") (List.mem_of_getElem? (i := 2) rfl)
  have nX3 : ∀ w ∈ wsX30, w ∈ wsX7_answer := fun _ h => List.mem_cons_of_mem _ (List.mem_append_left _ (List.mem_append_left _ (List.mem_append_left _ (List.mem_append_left _ (List.mem_append_left _ (List.mem_append_left _ (List.mem_append_left _ (List.mem_append_right _ h))))))))
  have nX4 : ∀ w ∈ wsX40, w ∈ wsX7_answer := fun _ h => List.mem_cons_of_mem _ (List.mem_append_left _ (List.mem_append_left _ (List.mem_append_left _ (List.mem_append_left _ (List.mem_append_left _ (List.mem_append_left _ (List.mem_append_right _ h)))))))
  obtain ⟨hR, hO, hT5⟩ := hp
  obtain ⟨⟨hn, hl4, hd2, hT⟩, hsk, hma, hdc, hle, hxb⟩ := id hO
  have y0_111 := hR.1 _ _ _ _ (t0)
  refine lv_aload_n hx hb dX7_answer_0 rfl (lv_at hl 0 rfl) ?_
  refine lv_iload_n hx hb dX7_answer_1 rfl (lv_at hl 1 rfl) ?_
  refine mq_xcallq (vx_runV (As := [.int ua]) (rest := []) ⟨hx, hb, hml, hown, hts⟩ (c_X7_learnerAt l hfl G A f ad S X S2 Y O T ua) (cwV 1 hts gX7_answer_X7_learnerAt rfl rfl rfl (by decide +kernel) ⟨Nat.le_of_ble_eq_true rfl, Nat.le_of_ble_eq_true rfl⟩) (mq_preV hK hZ hS hA hM (q := (RX7, TX7, 6)) y0_111 rfl (⟨hR, hO⟩) _) rfl rfl hl.1 rfl (lv_room (Nat.le_of_ble_eq_true rfl)) dX7_answer_2 ⟨Nat.le_of_ble_eq_true rfl, Nat.le_of_ble_eq_true rfl⟩) hS (fun E ce q9 g2 H locs p2 hM hS hce hcv hcl => ?_) (fun r2 g2 H locs p2 hM hS => ?_)
  · obtain ⟨rfl, rfl, q9⟩ := p2
    exact mq_out (List.eq_nil_iff_forall_not_mem.mpr fun x hx => ht9 x hx) hlocks hce hcv hcl hM hS (⟨rfl, Or.inl (⟨congrArg Prod.fst (spLS_n (fun q => q9 q.1)), rfl⟩)⟩) (Nat.le_of_ble_eq_true rfl) (Nat.le_of_ble_eq_true rfl)
  refine W.widen (k := 1) (n := 6) (Nat.le_of_ble_eq_true rfl) (Nat.le_of_ble_eq_true rfl) ?_
  obtain ⟨rfl, j, hj, rfl, rfl⟩ := p2
  refine lv_astore (lv' := [(4, .ref (ad 5 j 0)), (0, .ref (ad 0 0 0)), (1, .int (nI j)), (2, .int ub), (3, .int (zb z))]) hx hb dX7_answer_5 hl (by decide) rfl (fun ls hl => ?_)
  refine lv_aload_n hx hb dX7_answer_7 rfl (lv_at hl 1 rfl) ?_
  refine lv_iload_n hx hb dX7_answer_8 rfl (lv_at hl 3 rfl) ?_
  refine mq_xcallq (vx_runV (As := [.int ub]) (rest := []) ⟨hx, hb, hml, hown, hts⟩ (c_X7_skillAt l hfl G A f ad S X S2 Y O T ub) (cwV 1 hts gX7_answer_X7_skillAt rfl rfl rfl (by decide +kernel) ⟨Nat.le_of_ble_eq_true rfl, Nat.le_of_ble_eq_true rfl⟩) (mq_preV hK hZ hS hA hM (q := (RX7, TX7, 6)) y0_111 rfl (⟨hR, hO⟩) _) rfl rfl hl.1 rfl (lv_room (Nat.le_of_ble_eq_true rfl)) dX7_answer_9 ⟨Nat.le_of_ble_eq_true rfl, Nat.le_of_ble_eq_true rfl⟩) hS (fun E ce q9 g9 H locs p9 hM hS hce hcv hcl => ?_) (fun r9 g9 H locs p9 hM hS => ?_)
  · obtain ⟨rfl, rfl, q9⟩ := p9
    exact mq_out (List.eq_nil_iff_forall_not_mem.mpr fun x hx => ht9 x hx) hlocks hce hcv hcl hM hS (⟨rfl, Or.inl (⟨congrArg Prod.fst (spLS_n (fun q => q9 q.2)), rfl⟩)⟩) (Nat.le_of_ble_eq_true rfl) (Nat.le_of_ble_eq_true rfl)
  refine W.widen (k := 2) (n := 12) (Nat.le_of_ble_eq_true rfl) (Nat.le_of_ble_eq_true rfl) ?_
  obtain ⟨rfl, k, hk, rfl, rfl⟩ := p9
  refine lv_pop hx hb dX7_answer_12 rfl ?_
  refine lv_aload_n hx hb dX7_answer_13 rfl (lv_at hl 1 rfl) ?_
  refine lv_aload hx hb dX7_answer_14 (lv_at hl 0 rfl) ?_
  refine lv_iload_n hx hb dX7_answer_16 rfl (lv_at hl 3 rfl) ?_
  refine mq_xcallv (vx_runV (As := [.ref (ad 5 j 0), .int (nI k)]) (rest := []) ⟨hx, hb, hml, hown, hts⟩ (c_X7_checkOpen l hfl G A f ad S X S2 Y O T j k) (cwV 2 hts gX7_answer_X7_checkOpen rfl rfl rfl (by decide +kernel) ⟨Nat.le_of_ble_eq_true rfl, Nat.le_of_ble_eq_true rfl⟩) (mq_preV hK hZ hS hA hM (q := (RX7, TX7, 6)) y0_111 rfl (⟨hR, hO, hj, hk⟩) _) rfl rfl hl.1 rfl (lv_room (Nat.le_of_ble_eq_true rfl)) dX7_answer_17 ⟨Nat.le_of_ble_eq_true rfl, Nat.le_of_ble_eq_true rfl⟩) hS (fun E ce q9 g17 H locs p17 hM hS hce hcv hcl => ?_) (fun g17 H locs p17 hM hS => ?_)
  · obtain ⟨rfl, rfl, q9⟩ := p17
    exact mq_out (List.eq_nil_iff_forall_not_mem.mpr fun x hx => ht9 x hx) hlocks hce hcv hcl hM hS (⟨rfl, Or.inr (⟨congrArg Prod.fst (show spAnswer S (nI j) (nI k) z = ((2, 0, S) : Nat × Int32 × AT) from (spLS_y hj hk hl4 hn).trans (if_neg (by rw [q9]; decide))), rfl⟩)⟩) (Nat.le_of_ble_eq_true rfl) (Nat.le_of_ble_eq_true rfl)
  refine W.widen (k := 3) (n := 18) (Nat.le_of_ble_eq_true rfl) (Nat.le_of_ble_eq_true rfl) ?_
  obtain ⟨rfl, ho9⟩ := p17
  refine lv_aload_n hx hb dX7_answer_20 rfl (lv_at hl 1 rfl) ?_
  refine lv_aload hx hb dX7_answer_21 (lv_at hl 0 rfl) ?_
  refine lv_iload_n hx hb dX7_answer_23 rfl (lv_at hl 3 rfl) ?_
  refine lv_iload_n hx hb dX7_answer_24 rfl (lv_at hl 4 rfl) ?_
  refine mq_callv (va_runV (As := [.ref (ad 5 j 0), .int (nI k), .int (zb z)]) (rest := []) ⟨hx, hb, hml, hown, hts⟩ (c_X7_noteAnswer l G A f ad S X S2 Y O T j k z) (cwV 3 hts gX7_answer_X7_noteAnswer rfl rfl rfl (by decide +kernel) ⟨Nat.le_of_ble_eq_true rfl, Nat.le_of_ble_eq_true rfl⟩) (mq_preV hK hZ hS hA hM (q := (RX7, TX7, 6)) y0_111 rfl (⟨hR, hO, hj, hk, hT5⟩) _) rfl rfl hl.1 rfl (lv_room (Nat.le_of_ble_eq_true rfl)) dX7_answer_25 ⟨Nat.le_of_ble_eq_true rfl, Nat.le_of_ble_eq_true rfl⟩) hS (fun g25 H locs p25 hM hS => ?_)
  refine W.widen (k := 3) (n := 18) (Nat.le_of_ble_eq_true rfl) (Nat.le_of_ble_eq_true rfl) ?_
  have hO9 := ok_note (z := z) hO hT5 hj hk
  have z5 : g25 (ad 5 j 0) = some (cLe (ad 6 j 0) (oMap (lEx (aE S j)) (ad 10 j 0)) (oMap (lWs (aE S j)) (ad 12 j 0)) (ad 9 j 0) (xOl X j)) := p25.1 _ _ _ _ (t5 (j := j) hj)
  have z6 := p25.1 _ _ _ _ (t6 (j := j) hj)
  have z7 := p25.1 _ _ _ _ (t7 (j := j) (k := k) hj (by omega))
  rw [sMa_at] at z7
  refine lv_aload hx hb dX7_answer_28 (lv_at hl 0 rfl) ?_
  refine mq_get (ci := 8) (v := .ref (ad 6 j 0)) (C := RX3) (T := TX3) (N := 5) hx hb hts nX3 hown hK hM z5 rfl 0 (by decide) w0 (fun _ h9 => h9) rfl dX7_answer_30 ?_
  refine lv_iload_n hx hb dX7_answer_33 rfl (lv_at hl 3 rfl) ?_
  refine mq_aald (t0 := 5) (v := .ref (ad 7 j k)) hx hb hK hM rfl z6 (vp_in_nI (by omega) (by omega)) (by rw [show (nI k : Int32).toNatClampNeg = k from nI_clamp (by omega)]; exact congrArg va_rf (rf_at (by omega))) dX7_answer_34 ?_
  refine mq_get (ci := 9) (v := .int (nI (mOd (nMa S j k z)))) (C := RX4) (T := TX4) (N := 7) hx hb hts nX4 hown hK hM z7 rfl 0 (by decide) w1 (fun _ h9 => h9) rfl dX7_answer_35 ?_
  refine vx_ret ?_
  exact mq_iret (v := nI (mOd (nMa S j k z))) hx hb hr hlocks hM hS (⟨_, _, (spLS_y hj hk hl4 hn).trans (if_pos ho9), p25, hO9⟩) dX7_answer_38

set_option maxHeartbeats 4000000 in
set_option maxRecDepth 100000 in
theorem c_X7_hint (l : Launch) (hfl : l.stackTraces = false) (G : mq_G) (A : Nat → Prop) (f : mq_F) (ad : AD) (S : AT) (X : CX) (S2 : AT) (Y : MX) (O : OX) (T : Nat) (ua : Int32) : vx_Met l yX7_hint wsX7_hint ({ frames := 8, cells := 5, slots := 24, locals := 141 } : Room) (mq_Pc G A f (WR G f ad S X S2 Y O ∧ cOK S X T ∧ T < 512) [.ref (ad 0 0 0), .int ua]) (mq_Qi G A (fun r g => ∃ S9 X9, spHint S ua = (0, r, S9) ∧ WR G g ad S9 X9 S2 Y O ∧ cOK S9 X9 (T + 1))) (mq_X G A (fun E g => f = g ∧ ((spHint S ua).1 = 1 ∧ E = "java/lang/IndexOutOfBoundsException" ∨ (spHint S ua).1 = 2 ∧ E = "java/lang/IllegalStateException"))) 5 24 A := by
  refine vx_ofW (cc := cX7_hint) (maxL := 3) (ret := (some .int)) (by decide) rfl ?_
  intro p e s m args below meth c s₁ B hml ht9 hv
  obtain ⟨rfl, ⟨hK, hZ, hM, hA⟩, hp⟩ := hv
  have hx := B.exec
  have hb := B.bytes
  have hr := B.returns
  have hts := atoms_spec (ws := wsX7_hint) B.pre
  have hown : s.vm.findClass RX7 = some m.cls := findClass_of_methodNamed B.named
  have hlocks := B.notSynchronized
  have hS : va_S A s.heap s.heap [] := va_S.rf
  have hl := lv_entry ([.ref (ad 0 0 0), .int ua]) (n := 3) (Nat.le_of_ble_eq_true rfl)
  rw [lg_entry_eq]
  generalize (lg_sl ([.ref (ad 0 0 0), .int ua]) ++ List.replicate (3 - (lg_sl ([.ref (ad 0 0 0), .int ua])).length) Slot.unset).toArray = ls at hl ⊢
  have hl : lv_has ls 3 [(0, .ref (ad 0 0 0)), (1, .int ua)] := hl
  have w0 := hts (.fieldLink RX7 227 "Tutorlight$Exercise" "hints" "I") (List.mem_of_getElem? (i := 1) rfl)
  have w1 := hts (.fieldLink RX7 178 "Tutorlight$Exercise" "equation" "LTutorlight$Equation;") (List.mem_of_getElem? (i := 2) rfl)
  have nX1 : ∀ w ∈ wsX10, w ∈ wsX7_hint := fun _ h => List.mem_cons_of_mem _ (List.mem_append_left _ (List.mem_append_left _ (List.mem_append_left _ (List.mem_append_left _ (List.mem_append_left _ (List.mem_append_left _ (List.mem_append_right _ h)))))))
  obtain ⟨hR, hO, hT5⟩ := hp
  obtain ⟨⟨hn, hl4, hd2, hT⟩, hsk, hma, hdc, hle, hxb⟩ := id hO
  have y0_114 := hR.1 _ _ _ _ (t0)
  refine lv_aload_n hx hb dX7_hint_0 rfl (lv_at hl 0 rfl) ?_
  refine lv_iload_n hx hb dX7_hint_1 rfl (lv_at hl 1 rfl) ?_
  refine mq_xcallq (vx_runV (As := [.int ua]) (rest := []) ⟨hx, hb, hml, hown, hts⟩ (c_X7_learnerAt l hfl G A f ad S X S2 Y O T ua) (cwV 1 hts gX7_hint_X7_learnerAt rfl rfl rfl (by decide +kernel) ⟨Nat.le_of_ble_eq_true rfl, Nat.le_of_ble_eq_true rfl⟩) (mq_preV hK hZ hS hA hM (q := (RX7, TX7, 6)) y0_114 rfl (⟨hR, hO⟩) _) rfl rfl hl.1 rfl (lv_room (Nat.le_of_ble_eq_true rfl)) dX7_hint_2 ⟨Nat.le_of_ble_eq_true rfl, Nat.le_of_ble_eq_true rfl⟩) hS (fun E ce q9 g2 H locs p2 hM hS hce hcv hcl => ?_) (fun r2 g2 H locs p2 hM hS => ?_)
  · obtain ⟨rfl, rfl, q9⟩ := p2
    exact mq_out (List.eq_nil_iff_forall_not_mem.mpr fun x hx => ht9 x hx) hlocks hce hcv hcl hM hS (⟨rfl, Or.inl (⟨congrArg Prod.fst (spL_n q9), rfl⟩)⟩) (Nat.le_of_ble_eq_true rfl) (Nat.le_of_ble_eq_true rfl)
  refine W.widen (k := 1) (n := 6) (Nat.le_of_ble_eq_true rfl) (Nat.le_of_ble_eq_true rfl) ?_
  obtain ⟨rfl, j, hj, rfl, rfl⟩ := p2
  refine mq_xcallq (vx_runS (As := [.ref (ad 5 j 0)]) (rest := []) ⟨hx, hb, hml, hown, hts⟩ (c_X7_exerciseOf l hfl G A f ad S X S2 Y O T j) (va_cwS 1 hts gX7_hint_X7_exerciseOf rfl rfl rfl (by decide +kernel) ⟨Nat.le_of_ble_eq_true rfl, Nat.le_of_ble_eq_true rfl⟩) (mq_preS hK hZ hS hA hM (⟨hR, hO, hj⟩) _) rfl rfl hl.1 rfl (lv_room (Nat.le_of_ble_eq_true rfl)) dX7_hint_5 ⟨Nat.le_of_ble_eq_true rfl, Nat.le_of_ble_eq_true rfl⟩) hS (fun E ce q9 g5 H locs p5 hM hS hce hcv hcl => ?_) (fun r5 g5 H locs p5 hM hS => ?_)
  · obtain ⟨rfl, rfl, q9⟩ := p5
    exact mq_out (List.eq_nil_iff_forall_not_mem.mpr fun x hx => ht9 x hx) hlocks hce hcv hcl hM hS (⟨rfl, Or.inr (⟨congrArg Prod.fst (show spHint S (nI j) = ((2, 0, S) : Nat × Int32 × AT) from (spL_y hj hl4).trans (by rw [q9]; rfl)), rfl⟩)⟩) (Nat.le_of_ble_eq_true rfl) (Nat.le_of_ble_eq_true rfl)
  refine W.widen (k := 2) (n := 12) (Nat.le_of_ble_eq_true rfl) (Nat.le_of_ble_eq_true rfl) ?_
  obtain ⟨rfl, e9, he9, rfl⟩ := p5
  obtain ⟨x1, x2, x3, x4, x5⟩ := (hle j hj).1 e9 he9
  refine lv_astore_n (lv' := [(2, .ref (ad 10 j 0)), (0, .ref (ad 0 0 0)), (1, .int (nI j))]) hx hb dX7_hint_8 rfl hl (by decide) rfl (fun ls hl => ?_)
  have y10_112 := hR.1 _ _ _ _ (t10 (j := j) hj he9)
  have y11_113 := hR.1 _ _ _ _ (t11 (j := j) hj he9)
  refine lv_aload_n hx hb dX7_hint_9 rfl (lv_at hl 0 rfl) ?_
  refine lv_dup hx hb dX7_hint_10 rfl ?_
  refine mq_get (ci := 6) (v := .int (nI (e9.2.2.2.2))) (C := RX1) (T := TX1) (N := 5) hx hb hts nX1 hown hK hM y10_112 rfl 4 (by decide) w0 (fun _ h9 => h9) rfl dX7_hint_11 ?_
  refine lv_iconst (v := 1) hx hb dX7_hint_14 (by decide) ?_
  refine lv_iadd hx hb dX7_hint_15 ?_
  rw [show (nI (e9.2.2.2.2)) + 1 = nI (e9.2.2.2.2 + 1) from nI_add _ _]
  refine mq_put (ci := 6) (v := .int (nI (e9.2.2.2.2 + 1))) (ty := .int) (C := RX1) (T := TX1) (N := 5) (fs' := [.int (nI (e9.1)), .int (ex_sol (e9.2.1)), .ref (ad 11 j 0), .int (nI (e9.2.2.2.1)), .int (nI (e9.2.2.2.2 + 1))]) hx hb hts nX1 tyX1 tyX1_ok nmX1 hown hK hM hS y10_112 rfl 4 (by decide) w0 (fun _ h9 => h9) rfl (by decide +kernel) rfl rfl (Nat.le_of_ble_eq_true rfl) dX7_hint_16 rfl (fun f_1 H locs e_2 hM hS => ?_)
  have h_3 : f_1 (ad 11 j 0) = some (.inr (5, [.int e9.2.2.1.1, .int e9.2.2.1.2.1, .int e9.2.2.1.2.2.1, .int e9.2.2.1.2.2.2])) := mq_n e_2 y11_113 (mq_neO y11_113 y10_112 (by decide))
  have h_4 : f_1 (ad 10 j 0) = some (.inr (6, [.int (nI (e9.1)), .int (ex_sol (e9.2.1)), .ref (ad 11 j 0), .int (nI (e9.2.2.2.1)), .int (nI (e9.2.2.2.2 + 1))])) := mq_s e_2
  refine lv_aload_n hx hb dX7_hint_19 rfl (lv_at hl 0 rfl) ?_
  refine mq_get (ci := 6) (v := .ref (ad 11 j 0)) (C := RX1) (T := TX1) (N := 5) hx hb hts nX1 hown hK hM h_4 rfl 2 (by decide) w1 (fun _ h9 => h9) rfl dX7_hint_20 ?_
  refine mq_calli (va_runV (As := []) (rest := []) ⟨hx, hb, hml, hown, hts⟩ (c_X0_ruleToTry l G A f_1 (ad 11 j 0) e9.2.2.1.1 e9.2.2.1.2.1 e9.2.2.1.2.2.1 e9.2.2.1.2.2.2) (cwV 0 hts gX7_hint_X0_ruleToTry rfl rfl rfl (by decide +kernel) ⟨Nat.le_of_ble_eq_true rfl, Nat.le_of_ble_eq_true rfl⟩) (mq_preV hK hZ hS hA hM (q := (RX0, TX0, 4)) h_3 rfl (h_3) _) rfl rfl hl.1 rfl (lv_room (Nat.le_of_ble_eq_true rfl)) dX7_hint_23 ⟨Nat.le_of_ble_eq_true rfl, Nat.le_of_ble_eq_true rfl⟩) hS (fun r23 g23 H locs p23 hM hS => ?_)
  refine W.widen (k := 5) (n := 24) (Nat.le_of_ble_eq_true rfl) (Nat.le_of_ble_eq_true rfl) ?_
  obtain ⟨k23, rfl⟩ := p23
  have hR1 := WR_ex hR e9.2.2.2.1 (e9.2.2.2.2 + 1) hj he9 e_2
  refine vx_ret ?_
  exact mq_iret (v := hintV e9.2.2.1) hx hb hr hlocks hM hS (⟨_, X, (spL_y hj hl4).trans (by rw [he9]; rfl), RR.mono hR1 k23, ok_le hO hT5 hj (fun e q => by cases q; exact ⟨x1, x2, x3, by show e9.2.2.2.1 ≤ T + 1; omega, by show e9.2.2.2.2 + 1 ≤ T + 1; omega⟩)⟩) dX7_hint_26

set_option maxHeartbeats 4000000 in
set_option maxRecDepth 100000 in
theorem c_X7_addNeed (l : Launch) (hfl : l.stackTraces = false) (G : mq_G) (A : Nat → Prop) (f : mq_F) (ad : AD) (S : AT) (X : CX) (S2 : AT) (Y : MX) (O : OX) (T : Nat) (ua ub : Int32) : vx_Met l yX7_addNeed wsX7_addNeed ({ frames := 8, cells := 3, slots := 18, locals := 141 } : Room) (mq_Pc G A f (WR G f ad S X S2 Y O ∧ cOK S X T ∧ T < 512) [.ref (ad 0 0 0), .int ua, .int ub]) (mq_Qi G A (fun r g => ∃ S9 X9, spNeed S ua ub = (0, r, S9) ∧ WR G g ad S9 X9 S2 Y O ∧ cOK S9 X9 (T + 1))) (mq_X G A (fun E g => f = g ∧ ((spNeed S ua ub).1 = 1 ∧ E = "java/lang/IndexOutOfBoundsException" ∨ (spNeed S ua ub).1 = 2 ∧ E = "java/lang/IllegalArgumentException"))) 3 18 A := by
  refine vx_ofW (cc := cX7_addNeed) (maxL := 4) (ret := (some .boolean)) (by decide) rfl ?_
  intro p e s m args below meth c s₁ B hml ht9 hv
  obtain ⟨rfl, ⟨hK, hZ, hM, hA⟩, hp⟩ := hv
  have hx := B.exec
  have hb := B.bytes
  have hr := B.returns
  have hts := atoms_spec (ws := wsX7_addNeed) B.pre
  have hown : s.vm.findClass RX7 = some m.cls := findClass_of_methodNamed B.named
  have hlocks := B.notSynchronized
  have hS : va_S A s.heap s.heap [] := va_S.rf
  have hl := lv_entry ([.ref (ad 0 0 0), .int ua, .int ub]) (n := 4) (Nat.le_of_ble_eq_true rfl)
  rw [lg_entry_eq]
  generalize (lg_sl ([.ref (ad 0 0 0), .int ua, .int ub]) ++ List.replicate (4 - (lg_sl ([.ref (ad 0 0 0), .int ua, .int ub])).length) Slot.unset).toArray = ls at hl ⊢
  have hl : lv_has ls 4 [(0, .ref (ad 0 0 0)), (1, .int ua), (2, .int ub)] := hl
  have w0 := hts (.fieldLink RX7 63 "Tutorlight$Skill" "neededSkills" "I") (List.mem_of_getElem? (i := 3) rfl)
  have w1 := hts (.classLink RX7 54 "java/lang/IllegalArgumentException") (List.mem_of_getElem? (i := 1) rfl)
  have w2 := hts (.initialized "java/lang/IllegalArgumentException") (List.mem_of_getElem? (i := 2) rfl)
  have nX5 : ∀ w ∈ wsX50, w ∈ wsX7_addNeed := fun _ h => List.mem_cons_of_mem _ (List.mem_append_left _ (List.mem_append_left _ (List.mem_append_left _ (List.mem_append_right _ h))))
  obtain ⟨hR, hO, hT5⟩ := hp
  obtain ⟨⟨hn, hl4, hd2, hT⟩, hsk, hma, hdc, hle, hxb⟩ := id hO
  have y0_116 := hR.1 _ _ _ _ (t0)
  refine lv_aload_n hx hb dX7_addNeed_0 rfl (lv_at hl 0 rfl) ?_
  refine lv_iload_n hx hb dX7_addNeed_1 rfl (lv_at hl 1 rfl) ?_
  refine mq_xcallq (vx_runV (As := [.int ua]) (rest := []) ⟨hx, hb, hml, hown, hts⟩ (c_X7_skillAt l hfl G A f ad S X S2 Y O T ua) (cwV 1 hts gX7_addNeed_X7_skillAt rfl rfl rfl (by decide +kernel) ⟨Nat.le_of_ble_eq_true rfl, Nat.le_of_ble_eq_true rfl⟩) (mq_preV hK hZ hS hA hM (q := (RX7, TX7, 6)) y0_116 rfl (⟨hR, hO⟩) _) rfl rfl hl.1 rfl (lv_room (Nat.le_of_ble_eq_true rfl)) dX7_addNeed_2 ⟨Nat.le_of_ble_eq_true rfl, Nat.le_of_ble_eq_true rfl⟩) hS (fun E ce q9 g2 H locs p2 hM hS hce hcv hcl => ?_) (fun r2 g2 H locs p2 hM hS => ?_)
  · obtain ⟨rfl, rfl, q9⟩ := p2
    exact mq_out (List.eq_nil_iff_forall_not_mem.mpr fun x hx => ht9 x hx) hlocks hce hcv hcl hM hS (⟨rfl, Or.inl (⟨congrArg Prod.fst (spNeed_n (fun q => q9 q.1)), rfl⟩)⟩) (Nat.le_of_ble_eq_true rfl) (Nat.le_of_ble_eq_true rfl)
  refine W.widen (k := 1) (n := 6) (Nat.le_of_ble_eq_true rfl) (Nat.le_of_ble_eq_true rfl) ?_
  obtain ⟨rfl, k, hk, rfl, rfl⟩ := p2
  refine lv_astore_n (lv' := [(3, .ref (ad 4 k 0)), (0, .ref (ad 0 0 0)), (1, .int (nI k)), (2, .int ub)]) hx hb dX7_addNeed_5 rfl hl (by decide) rfl (fun ls hl => ?_)
  refine lv_aload_n hx hb dX7_addNeed_6 rfl (lv_at hl 1 rfl) ?_
  refine lv_iload_n hx hb dX7_addNeed_7 rfl (lv_at hl 3 rfl) ?_
  refine mq_xcallq (vx_runV (As := [.int ub]) (rest := []) ⟨hx, hb, hml, hown, hts⟩ (c_X7_skillAt l hfl G A f ad S X S2 Y O T ub) (cwV 1 hts gX7_addNeed_X7_skillAt rfl rfl rfl (by decide +kernel) ⟨Nat.le_of_ble_eq_true rfl, Nat.le_of_ble_eq_true rfl⟩) (mq_preV hK hZ hS hA hM (q := (RX7, TX7, 6)) y0_116 rfl (⟨hR, hO⟩) _) rfl rfl hl.1 rfl (lv_room (Nat.le_of_ble_eq_true rfl)) dX7_addNeed_8 ⟨Nat.le_of_ble_eq_true rfl, Nat.le_of_ble_eq_true rfl⟩) hS (fun E ce q9 g8 H locs p8 hM hS hce hcv hcl => ?_) (fun r8 g8 H locs p8 hM hS => ?_)
  · obtain ⟨rfl, rfl, q9⟩ := p8
    exact mq_out (List.eq_nil_iff_forall_not_mem.mpr fun x hx => ht9 x hx) hlocks hce hcv hcl hM hS (⟨rfl, Or.inl (⟨congrArg Prod.fst (spNeed_n (fun q => q9 q.2)), rfl⟩)⟩) (Nat.le_of_ble_eq_true rfl) (Nat.le_of_ble_eq_true rfl)
  refine W.widen (k := 2) (n := 12) (Nat.le_of_ble_eq_true rfl) (Nat.le_of_ble_eq_true rfl) ?_
  obtain ⟨rfl, k2, hk2, rfl, rfl⟩ := p8
  refine lv_pop hx hb dX7_addNeed_11 rfl ?_
  refine lv_aload_n hx hb dX7_addNeed_12 rfl (lv_at hl 1 rfl) ?_
  refine lv_iload_n hx hb dX7_addNeed_13 rfl (lv_at hl 3 rfl) ?_
  refine lv_iload_n hx hb dX7_addNeed_14 rfl (lv_at hl 2 rfl) ?_
  refine mq_calli (va_runV (As := [.int (nI k2), .int (nI k)]) (rest := []) ⟨hx, hb, hml, hown, hts⟩ (c_X7_comesToNeed l G A f ad S X S2 Y O T k2 k) (cwV 2 hts gX7_addNeed_X7_comesToNeed rfl rfl rfl (by decide +kernel) ⟨Nat.le_of_ble_eq_true rfl, Nat.le_of_ble_eq_true rfl⟩) (mq_preV hK hZ hS hA hM (q := (RX7, TX7, 6)) y0_116 rfl (⟨hR, hO, hk2, hk⟩) _) rfl rfl hl.1 rfl (lv_room (Nat.le_of_ble_eq_true rfl)) dX7_addNeed_15 ⟨Nat.le_of_ble_eq_true rfl, Nat.le_of_ble_eq_true rfl⟩) hS (fun r15 g15 H locs p15 hM hS => ?_)
  refine W.widen (k := 2) (n := 12) (Nat.le_of_ble_eq_true rfl) (Nat.le_of_ble_eq_true rfl) ?_
  obtain ⟨rfl, rfl⟩ := p15
  refine lv_if_eq (tgt := 31) hx hb dX7_addNeed_18 (by decide) (fun c_18 => ?_) (fun c_18 => ?_)
  · replace c_18 : zb ((ctn S k2 (aN S)).testBit k) = 0 := c_18
    rw [zb_0] at c_18
    have hmk := pow_le10 (hsk k hk).2.2.2 hn
    have y4_115 := hR.1 _ _ _ _ (t4 (j := k) hk)
    refine lv_aload_n hx hb dX7_addNeed_31 rfl (lv_at hl 0 rfl) ?_
    refine lv_iload_n hx hb dX7_addNeed_32 rfl (lv_at hl 3 rfl) ?_
    refine mq_calli (va_runV (As := [.int (nI k2)]) (rest := []) ⟨hx, hb, hml, hown, hts⟩ (c_X5_needs l G A f (ad 4 k 0) (aS S k).1 (aS S k).2.1 (aS S k).2.2.1 (aS S k).2.2.2 k2) (cwV 1 hts gX7_addNeed_X5_needs rfl rfl rfl (by decide +kernel) ⟨Nat.le_of_ble_eq_true rfl, Nat.le_of_ble_eq_true rfl⟩) (mq_preV hK hZ hS hA hM (q := (RX5, TX5, 4)) y4_115 rfl (⟨y4_115, by omega, by omega⟩) _) rfl rfl hl.1 rfl (lv_room (Nat.le_of_ble_eq_true rfl)) dX7_addNeed_33 ⟨Nat.le_of_ble_eq_true rfl, Nat.le_of_ble_eq_true rfl⟩) hS (fun r33 g33 H locs p33 hM hS => ?_)
    refine W.widen (k := 2) (n := 12) (Nat.le_of_ble_eq_true rfl) (Nat.le_of_ble_eq_true rfl) ?_
    obtain ⟨rfl, rfl⟩ := p33
    refine lv_if_eq (tgt := 41) hx hb dX7_addNeed_36 (by decide) (fun c_36 => ?_) (fun c_36 => ?_)
    · replace c_36 : zb ((aS S k).2.2.2.testBit k2) = 0 := c_36
      rw [zb_0] at c_36
      refine lv_aload_n hx hb dX7_addNeed_41 rfl (lv_at hl 0 rfl) ?_
      refine lv_dup hx hb dX7_addNeed_42 rfl ?_
      refine mq_get (ci := 10) (v := .int (nI ((aS S k).2.2.2))) (C := RX5) (T := TX5) (N := 4) hx hb hts nX5 hown hK hM y4_115 rfl 3 (by decide) w0 (fun _ h9 => h9) rfl dX7_addNeed_43 ?_
      refine lv_iconst (v := 1) hx hb dX7_addNeed_46 (by decide) ?_
      refine lv_iload_n hx hb dX7_addNeed_47 rfl (lv_at hl 3 rfl) ?_
      refine lv_ishl hx hb dX7_addNeed_48 ?_
      rw [show 1 <<< ((nI k2) &&& 31) = nI (2 ^ k2) from shl_1 _ (by omega)]
      refine lv_ior hx hb dX7_addNeed_49 ?_
      rw [show (nI ((aS S k).2.2.2)) ||| (nI (2 ^ k2)) = nI ((aS S k).2.2.2 ||| 2 ^ k2) from or_nI _ _]
      refine mq_put (ci := 10) (v := .int (nI ((aS S k).2.2.2 ||| 2 ^ k2))) (ty := .int) (C := RX5) (T := TX5) (N := 4) (fs' := [.int (nI ((aS S k).1)), .int (nI ((aS S k).2.1)), .int (nI ((aS S k).2.2.1)), .int (nI ((aS S k).2.2.2 ||| 2 ^ k2))]) hx hb hts nX5 tyX5 tyX5_ok nmX5 hown hK hM hS y4_115 rfl 3 (by decide) w0 (fun _ h9 => h9) rfl (by decide +kernel) rfl rfl (Nat.le_of_ble_eq_true rfl) dX7_addNeed_50 rfl (fun f_1 H locs e_2 hM hS => ?_)
      have h_3 : f_1 (ad 4 k 0) = some (.inr (10, [.int (nI ((aS S k).1)), .int (nI ((aS S k).2.1)), .int (nI ((aS S k).2.2.1)), .int (nI ((aS S k).2.2.2 ||| 2 ^ k2))])) := mq_s e_2
      refine lv_iconst (v := 1) hx hb dX7_addNeed_53 (by decide) ?_
      refine vx_ret ?_
      refine W.widen (k := 3) (n := 18) (Nat.le_of_ble_eq_true rfl) (Nat.le_of_ble_eq_true rfl) ?_
      exact mq_zret (v := 1) hx hb hr (rfl) hlocks hM hS (⟨_, X, (spNeed_y hk hk2 hn).trans ((if_neg (by rw [c_18]; decide)).trans (if_neg (by rw [c_36]; decide))), WR_sk hR ((aS S k).1, (aS S k).2.1, (aS S k).2.2.1, (aS S k).2.2.2 ||| 2 ^ k2) hk e_2, ok_need hO hT5 hk hk2⟩) dX7_addNeed_54
    · replace c_36 : ¬ zb ((aS S k).2.2.2.testBit k2) = 0 := c_36
      rw [zb_n0] at c_36
      refine lv_iconst (v := 0) hx hb dX7_addNeed_39 (by decide) ?_
      refine vx_ret ?_
      refine W.widen (k := 3) (n := 18) (Nat.le_of_ble_eq_true rfl) (Nat.le_of_ble_eq_true rfl) ?_
      exact mq_zret (v := 0) hx hb hr (rfl) hlocks hM hS (⟨_, X, (spNeed_y hk hk2 hn).trans ((if_neg (by rw [c_18]; decide)).trans (if_pos c_36)), hR, ok_mono hO hT5⟩) dX7_addNeed_40
  · replace c_18 : ¬ zb ((ctn S k2 (aN S)).testBit k) = 0 := c_18
    rw [zb_n0] at c_18
    obtain ⟨sa, hsa⟩ := mq_str hZ (own := RX7) (k := 56) (tx := "a skill came to need itself") (by decide +kernel)
    refine vx_throwS (A := A) (own := RX7) (cls := "java/lang/IllegalArgumentException") (text := "a skill came to need itself") (names := ["java/lang/RuntimeException", "java/lang/Exception"]) (ik := 54) (is := 56) (ic := 58) hx hb hfl hown (by decide +kernel) (by decide +kernel) w1 w2 hsa (mq_hat hZ (fun w h => hts w (List.mem_cons_of_mem _ (List.mem_append_left _ (List.mem_append_right _ h)))) (by decide +kernel)) (by decide +kernel) hZ.1.1 hZ.1.2 hS (by rw [hml]; exact hl.1) dX7_addNeed_21 dX7_addNeed_24 dX7_addNeed_25 dX7_addNeed_27 dX7_addNeed_30 (fun x hx => (ht9 x hx).elim) (Nat.le_of_ble_eq_true rfl) (Nat.le_of_ble_eq_true rfl) (Nat.le_of_ble_eq_true rfl) (Nat.le_of_ble_eq_true rfl) hlocks (fun t9 hv9 hz9 hq9 => mq_thrown hM hS hz9 hq9 (⟨rfl, Or.inr (⟨congrArg Prod.fst (show spNeed S (nI k) (nI k2) = ((2, 0, S) : Nat × Int32 × AT) from (spNeed_y hk hk2 hn).trans (if_pos c_18)), rfl⟩)⟩)) hS.2.2 (Nat.le_of_ble_eq_true rfl) (Nat.le_of_ble_eq_true rfl)
