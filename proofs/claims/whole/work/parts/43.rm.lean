/-! THE REFERENCE: answer; equations, those made lately -/
theorem mx3 {n : Nat} (h : n < 2 ^ 20) : (if (0 : Int32) < nI n - 3 then nI n - 3 else 0) = nI (n - 3) := by
  have h1 : (nI n - 3).toInt = (n : Int) - 3 := pk_sub_toInt (b := 3) (by omega) (by decide)
  by_cases hn : 3 < n
  · rw [if_pos (by rw [Int32.lt_iff_toInt_lt, h1]; show (0 : Int) < _; omega)]
    exact pk_sub (b := 3) (by omega)
  · rw [if_neg (by rw [Int32.lt_iff_toInt_lt, h1]; show ¬ (0 : Int) < _; omega), show n - 3 = 0 by omega]; rfl
theorem ex_inj {a b : Nat} (ha : a < 1260) (hb : b < 1260) (h : ex_eq a = ex_eq b) : a = b := by
  have h1 := (ex_eq_ok ha).2
  have h2 := (ex_eq_ok hb).2
  rw [h] at h1
  have hs : (ex_sol a).toInt = (ex_sol b).toInt := by
    have h3 := h1.2.trans h2.2.symm
    have hne : (ex_eq b).1.toInt - (ex_eq b).2.2.1.toInt ≠ 0 := by have := h2.1; omega
    exact Int.eq_of_mul_eq_mul_left hne h3
  rw [ex_solI, ex_solI] at hs
  have e1 : nI (2 + a % 7) = nI (2 + b % 7) := congrArg Prod.fst h
  have e2 : ex_b a = ex_b b := congrArg (fun q => q.2.1) h
  have e3 : nI (a / 7 % 2) = nI (b / 7 % 2) := congrArg (fun q => q.2.2.1) h
  rw [nI_eq (by omega) (by omega)] at e1 e3
  have e4 := congrArg Int32.toInt e2
  rw [show (ex_b a).toInt = ((a / 140 % 9 : Nat) : Int) - 4 from pk_sub_toInt (b := 4) (by omega) (by decide), show (ex_b b).toInt = ((b / 140 % 9 : Nat) : Int) - 4 from pk_sub_toInt (b := 4) (by omega) (by decide)] at e4
  omega
theorem md_lt {md : List Nat} (h : ∀ x ∈ md, x < 1260) {i : Nat} (hi : i < md.length) : md.getD i 0 < 1260 := by
  have : md.getD i 0 = md[i] := by simp [hi]
  rw [this]; exact h _ (List.getElem_mem hi)
def laF (md : List Nat) (w s : Nat) : Nat → Bool
  | 0 => false
  | d + 1 => laF md w s d || decide (md.getD (s + d) 0 = w)
theorem laF_S {md : List Nat} {w s d : Nat} : laF md w s (d + 1) = (laF md w s d || decide (md.getD (s + d) 0 = w)) := rfl
theorem laF_iff {md : List Nat} {w s : Nat} : ∀ {d}, laF md w s d = true ↔ ∃ i, i < d ∧ md.getD (s + i) 0 = w
  | 0 => ⟨fun q => (by cases q), fun ⟨i, hi, _⟩ => absurd hi (Nat.not_lt_zero i)⟩
  | d + 1 => by
    rw [laF_S, Bool.or_eq_true, laF_iff, decide_eq_true_eq]
    constructor
    · rintro (⟨i, h1, h2⟩ | h)
      · exact ⟨i, by omega, h2⟩
      · exact ⟨d, Nat.lt_succ_self d, h⟩
    · rintro ⟨i, h1, h2⟩
      by_cases hi : i = d
      · subst hi; exact Or.inr h2
      · exact Or.inl ⟨i, by omega, h2⟩
theorem laF_lat {md : List Nat} {w d : Nat} (hd : md.length - 3 + d = md.length) : laF md w (md.length - 3) d = lat md w := by
  rw [Bool.eq_iff_iff, laF_iff, lat_iff]
  constructor
  · rintro ⟨i, h1, h2⟩
    exact ⟨md.length - 1 - (md.length - 3 + i), by omega, by omega, by rw [show md.length - 1 - (md.length - 1 - (md.length - 3 + i)) = md.length - 3 + i by omega]; exact h2⟩
  · rintro ⟨t, h1, h2, h3⟩
    exact ⟨md.length - 1 - t - (md.length - 3), by omega, by rw [show md.length - 3 + (md.length - 1 - t - (md.length - 3)) = md.length - 1 - t by omega]; exact h3⟩

set_option maxHeartbeats 4000000 in
set_option maxRecDepth 100000 in
theorem c_X11_answer (l : Launch) (G : mq_G) (A : Nat → Prop) (f : mq_F) (ad : AD) (S : AT) (X : CX) (S2 : AT) (Y : MX) (O : OX) (T : Nat) (ua ub : Int32) (z : Bool) : Met l yX11_answer wsX11_answer ({ frames := 13, cells := 1, slots := 800, locals := 258 } : Room) (mq_Pc G A f (WR G f ad S X S2 Y O ∧ mOK S2 Y T ∧ T < 512) [.ref (ad 20 0 0), .int ua, .int ub, .int (zb z)]) (mq_Qi G A (fun r g => ∃ c9 S9 Y9 ad9, spAnswer S2 ua ub z = (c9, r, S9) ∧ WR G g ad9 S X S9 (yThr Y9 (nI c9)) O ∧ mCp S9 Y9 ∧ adK ad ad9)) 1 800 A := by
  refine Met.ofW (cc := cX11_answer) (maxL := 4) (ret := (some .int)) (by decide) rfl ?_
  intro p e s m args below meth c s₁ B hml hv
  obtain ⟨rfl, ⟨hK, hZ, hM, hA⟩, hp⟩ := hv
  have hx := B.exec
  have hb := B.bytes
  have hr := B.returns
  have hts := atoms_spec (ws := wsX11_answer) B.pre
  have hown : s.vm.findClass RX11 = some m.cls := findClass_of_methodNamed B.named
  have hlocks := B.notSynchronized
  have hS : va_S A s.heap s.heap [] := va_S.rf
  have hl := lv_entry ([.ref (ad 20 0 0), .int ua, .int ub, .int (zb z)]) (n := 4) (Nat.le_of_ble_eq_true rfl)
  rw [lg_entry_eq]
  generalize (lg_sl ([.ref (ad 20 0 0), .int ua, .int ub, .int (zb z)]) ++ List.replicate (4 - (lg_sl ([.ref (ad 20 0 0), .int ua, .int ub, .int (zb z)])).length) Slot.unset).toArray = ls at hl ⊢
  have hl : lv_has ls 4 [(0, .ref (ad 20 0 0)), (1, .int ua), (2, .int ub), (3, .int (zb z))] := hl
  have w0 := hts (.fieldLink RX11 19 "TutorlightModel" "thrown" "I") (List.mem_of_getElem? (i := 1) rfl)
  have w1 := hts (.fieldLink RX11 81 "TutorlightModel$Known" "odds" "I") (List.mem_of_getElem? (i := 2) rfl)
  have nX11 : ∀ w ∈ wsX110, w ∈ wsX11_answer := fun _ h => List.mem_cons_of_mem _ (List.mem_append_left _ (List.mem_append_left _ (List.mem_append_left _ (List.mem_append_left _ (List.mem_append_left _ (List.mem_append_left _ (List.mem_append_right _ h)))))))
  have nX8 : ∀ w ∈ wsX80, w ∈ wsX11_answer := fun _ h => List.mem_cons_of_mem _ (List.mem_append_left _ (List.mem_append_left _ (List.mem_append_left _ (List.mem_append_left _ (List.mem_append_left _ (List.mem_append_right _ h))))))
  obtain ⟨hR, hO, hT5⟩ := hp
  obtain ⟨⟨X9, ⟨hn, hl4, hd2, hT⟩, hsk, hma, hdc, hle, -⟩, ⟨hns, hnc⟩, ⟨hls, hlc⟩, hac, hmc⟩ := id hO
  obtain ⟨⟨X8, hX8⟩, -⟩ := id hO
  have y20_267 := hR.1 _ _ _ _ (t20)
  refine lv_aload_n hx hb dX11_answer_0 rfl (lv_at hl 0 rfl) ?_
  refine lv_iconst (v := 0) hx hb dX11_answer_1 (by decide) ?_
  refine mq_put (ci := 16) (v := .int 0) (ty := .int) (C := RX11) (T := TX11) (N := 4) (fs' := [.int 0, .int (nI (aD S2)), .ref (ad 21 0 0), .ref (ad 23 0 0)]) hx hb hts nX11 tyX11 tyX11_ok nmX11 hown hK hM hS y20_267 rfl 0 (by decide) w0 (fun _ h9 => h9) rfl (by decide +kernel) rfl rfl (Nat.le_of_ble_eq_true rfl) dX11_answer_2 rfl (fun f_1 H locs e_2 hM hS => ?_)
  have h_3 : f_1 (ad 20 0 0) = some (.inr (16, [.int 0, .int (nI (aD S2)), .ref (ad 21 0 0), .ref (ad 23 0 0)])) := mq_s e_2
  have hR1 := WR_yt hR e_2
  refine lv_aload_n hx hb dX11_answer_5 rfl (lv_at hl 0 rfl) ?_
  refine lv_iload_n hx hb dX11_answer_6 rfl (lv_at hl 1 rfl) ?_
  refine lv_iload_n hx hb dX11_answer_7 rfl (lv_at hl 2 rfl) ?_
  refine mq_calli (va_runV (As := [.int ua, .int ub]) (rest := []) ⟨hx, hb, hml, hown, hts⟩ (c_X11_no l G A f_1 ad S X S2 (yThr Y 0) O T ua ub) (cwV 2 hts gX11_answer_X11_no rfl rfl rfl (by decide +kernel) ⟨Nat.le_of_ble_eq_true rfl, Nat.le_of_ble_eq_true rfl⟩) (mq_preV hK hZ hS hA hM (q := (RX11, TX11, 4)) h_3 rfl (⟨hR1, hO.thr 0, rfl⟩) _) rfl rfl hl.1 rfl (lv_room (Nat.le_of_ble_eq_true rfl)) dX11_answer_8 ⟨Nat.le_of_ble_eq_true rfl, Nat.le_of_ble_eq_true rfl⟩) hS (fun r8 g8 H locs p8 hM hS => ?_)
  refine W.widen (k := 0) (n := 0) (Nat.le_of_ble_eq_true rfl) (Nat.le_of_ble_eq_true rfl) ?_
  refine lv_if_ne (tgt := 36) hx hb dX11_answer_11 (by decide) (fun c_11 => ?_) (fun c_11 => ?_)
  · obtain ⟨hno, hR9⟩ := no_1 p8 c_11
    refine lv_iconst (v := 0) hx hb dX11_answer_36 (by decide) ?_
    refine W.widen (k := 1) (n := 800) (Nat.le_of_ble_eq_true rfl) (Nat.le_of_ble_eq_true rfl) ?_
    exact mq_iret (v := 0) hx hb hr hlocks hM hS (⟨1, S2, Y, ad, spLS_n hno, hR9, hO.2, adK_id⟩) dX11_answer_37
  · obtain ⟨rfl, j, k, hj, hk, rfl, rfl⟩ := no_0 p8 c_11
    refine lv_aload_n hx hb dX11_answer_14 rfl (lv_at hl 0 rfl) ?_
    refine lv_aload_n hx hb dX11_answer_15 rfl (lv_at hl 0 rfl) ?_
    refine lv_iload_n hx hb dX11_answer_16 rfl (lv_at hl 1 rfl) ?_
    refine lv_iload_n hx hb dX11_answer_17 rfl (lv_at hl 2 rfl) ?_
    refine mq_calli (va_runV (As := [.int (nI j), .int (nI k)]) (rest := [.ref (ad 20 0 0)]) ⟨hx, hb, hml, hown, hts⟩ (c_X11_openFor l G A f_1 ad S X S2 (yThr Y 0) O T j k) (cwV 2 hts gX11_answer_X11_openFor rfl rfl rfl (by decide +kernel) ⟨Nat.le_of_ble_eq_true rfl, Nat.le_of_ble_eq_true rfl⟩) (mq_preV hK hZ hS hA hM (q := (RX11, TX11, 4)) h_3 rfl (⟨hR1, hO.thr 0, hj, hk⟩) _) rfl rfl hl.1 rfl (lv_room (Nat.le_of_ble_eq_true rfl)) dX11_answer_18 ⟨Nat.le_of_ble_eq_true rfl, Nat.le_of_ble_eq_true rfl⟩) hS (fun r18 g18 H locs p18 hM hS => ?_)
    refine W.widen (k := 0) (n := 0) (Nat.le_of_ble_eq_true rfl) (Nat.le_of_ble_eq_true rfl) ?_
    obtain ⟨rfl, rfl⟩ := p18
    refine lv_if_ne (tgt := 28) hx hb dX11_answer_21 (by decide) (fun c_21 => ?_) (fun c_21 => ?_)
    · replace c_21 : ¬ zb (opn S2 j k) = 0 := c_21
      rw [zb_n0] at c_21
      refine lv_iconst (v := 0) hx hb dX11_answer_28 (by decide) ?_
      refine lv_iconst (v := 2) hx hb dX11_answer_29 (by decide) ?_
      refine mq_calli (va_runV (As := [.int 0, .int 2]) (rest := []) ⟨hx, hb, hml, hown, hts⟩ (c_X11_fails l G A f_1 (ad 20 0 0) false 2 0 (nI (aD S2)) (ad 21 0 0) (ad 23 0 0)) (cwV 2 hts gX11_answer_X11_fails rfl rfl rfl (by decide +kernel) ⟨Nat.le_of_ble_eq_true rfl, Nat.le_of_ble_eq_true rfl⟩) (mq_preV hK hZ hS hA hM (q := (RX11, TX11, 4)) h_3 rfl (h_3) _) rfl rfl hl.1 rfl (lv_room (Nat.le_of_ble_eq_true rfl)) dX11_answer_30 ⟨Nat.le_of_ble_eq_true rfl, Nat.le_of_ble_eq_true rfl⟩) hS (fun r30 g30 H locs p30 hM hS => ?_)
      refine W.widen (k := 0) (n := 0) (Nat.le_of_ble_eq_true rfl) (Nat.le_of_ble_eq_true rfl) ?_
      obtain ⟨hg, hr9⟩ := p30
      obtain rfl := fl_0 h_3 hg
      rw [hr9, show zb (decide (fT false 0 2 ≠ 0)) = 0 from by decide]
      refine lv_if_eq (tgt := 38) hx hb dX11_answer_33 (by decide) (fun c_33 => ?_) (fun c_33 => absurd c_33 (by decide))
      refine lv_aload_n hx hb dX11_answer_38 rfl (lv_at hl 0 rfl) ?_
      refine lv_iload_n hx hb dX11_answer_39 rfl (lv_at hl 1 rfl) ?_
      refine lv_iload_n hx hb dX11_answer_40 rfl (lv_at hl 2 rfl) ?_
      refine lv_iload_n hx hb dX11_answer_41 rfl (lv_at hl 3 rfl) ?_
      refine mq_callv (va_runV (As := [.int (nI j), .int (nI k), .int (zb z)]) (rest := []) ⟨hx, hb, hml, hown, hts⟩ (c_X11_note l G A f_1 ad S X S2 (yThr Y 0) O T j k z) (cwV 3 hts gX11_answer_X11_note rfl rfl rfl (by decide +kernel) ⟨Nat.le_of_ble_eq_true rfl, Nat.le_of_ble_eq_true rfl⟩) (mq_preV hK hZ hS hA hM (q := (RX11, TX11, 4)) h_3 rfl (⟨hR1, hO.thr 0, hj, hk, hT5⟩) _) rfl rfl hl.1 rfl (lv_room (Nat.le_of_ble_eq_true rfl)) dX11_answer_42 ⟨Nat.le_of_ble_eq_true rfl, Nat.le_of_ble_eq_true rfl⟩) hS (fun g42 H locs p42 hM hS => ?_)
      refine W.widen (k := 1) (n := 800) (Nat.le_of_ble_eq_true rfl) (Nat.le_of_ble_eq_true rfl) ?_
      obtain ⟨q9, cap9, hlc9, hR9⟩ := p42
      have z20 : g42 (ad 20 0 0) = some (.inr (16, [.int 0, .int (nI (aD S2)), .ref (ad 21 0 0), .ref (ad 23 0 0)])) := hR9.1 20 0 0 _ t20
      have w29 := hR9.1 29 j k _ (t29 (j := j) (k := k) hj (by omega))
      rw [sMa_at] at w29
      have z29 : g42 (ad 29 j k) = some (.inr (13, [.int (nI (mOd (nMa S2 j k z))), .int (nI (mTo (nMa S2 j k z))), .ref (ad 30 j k), .int (zb (mOp (nMa S2 j k z))), .int (nI (mRo (nMa S2 j k z))), .int (du (mDu (nMa S2 j k z)))])) := w29
      have hc9 := mCp_an (j := j) (k := k) (v := nMa S2 j k z) (mc := (yA Y j k).1 + 1) hO.2 (by rw [show (mAn (aM S2 j k) ++ [z]).length = (mAn (aM S2 j k)).length + 1 by simp]; exact hlc9)
      refine lv_aload_n hx hb dX11_answer_45 rfl (lv_at hl 0 rfl) ?_
      refine lv_iload_n hx hb dX11_answer_46 rfl (lv_at hl 1 rfl) ?_
      refine lv_iload_n hx hb dX11_answer_47 rfl (lv_at hl 2 rfl) ?_
      refine mq_callq (va_runV (As := [.int (nI j), .int (nI k)]) (rest := []) ⟨hx, hb, hml, hown, hts⟩ (c_X11_of l G A g42 (adU ad 31 j k q9) S X (nsNote S2 j k z) (yThr (yAn Y j k ((yA Y j k).1 + 1, cap9)) 0) O (T + 1) j k) (cwV 2 hts gX11_answer_X11_of rfl rfl rfl (by decide +kernel) ⟨Nat.le_of_ble_eq_true rfl, Nat.le_of_ble_eq_true rfl⟩) (mq_preV hK hZ hS hA hM (q := (RX11, TX11, 4)) z20 rfl (⟨hR9, ⟨⟨_, ok_note hX8 hT5 hj hk⟩, hc9⟩, hj, by omega⟩) _) rfl rfl hl.1 rfl (lv_room (Nat.le_of_ble_eq_true rfl)) dX11_answer_48 ⟨Nat.le_of_ble_eq_true rfl, Nat.le_of_ble_eq_true rfl⟩) hS (fun r48 g48 H locs p48 hM hS => ?_)
      refine W.widen (k := 1) (n := 800) (Nat.le_of_ble_eq_true rfl) (Nat.le_of_ble_eq_true rfl) ?_
      obtain ⟨rfl, rfl⟩ := p48
      refine mq_get (ci := 13) (v := .int (nI (mOd (nMa S2 j k z)))) (C := RX8) (T := TX8) (N := 6) hx hb hts nX8 hown hK hM z29 rfl 0 (by decide) w1 (fun _ h9 => h9) rfl dX11_answer_51 ?_
      exact mq_iret (v := nI (mOd (nMa S2 j k z))) hx hb hr hlocks hM hS (⟨0, nsNote S2 j k z, (yAn Y j k ((yA Y j k).1 + 1, cap9)), adU ad 31 j k q9, (spLS_y hj hk hl4 hn).trans (if_pos c_21), hR9, hc9, ⟨rfl, rfl, rfl, rfl⟩⟩) dX11_answer_54
    · replace c_21 : zb (opn S2 j k) = 0 := c_21
      rw [zb_0] at c_21
      refine lv_iconst (v := 1) hx hb dX11_answer_24 (by decide) ?_
      refine lv_goto (tgt := 29) hx hb dX11_answer_25 (by decide) ?_
      refine lv_iconst (v := 2) hx hb dX11_answer_29 (by decide) ?_
      refine mq_calli (va_runV (As := [.int 1, .int 2]) (rest := []) ⟨hx, hb, hml, hown, hts⟩ (c_X11_fails l G A f_1 (ad 20 0 0) true 2 0 (nI (aD S2)) (ad 21 0 0) (ad 23 0 0)) (cwV 2 hts gX11_answer_X11_fails rfl rfl rfl (by decide +kernel) ⟨Nat.le_of_ble_eq_true rfl, Nat.le_of_ble_eq_true rfl⟩) (mq_preV hK hZ hS hA hM (q := (RX11, TX11, 4)) h_3 rfl (h_3) _) rfl rfl hl.1 rfl (lv_room (Nat.le_of_ble_eq_true rfl)) dX11_answer_30 ⟨Nat.le_of_ble_eq_true rfl, Nat.le_of_ble_eq_true rfl⟩) hS (fun r30 g30 H locs p30 hM hS => ?_)
      refine W.widen (k := 0) (n := 0) (Nat.le_of_ble_eq_true rfl) (Nat.le_of_ble_eq_true rfl) ?_
      obtain ⟨hg, hr9⟩ := p30
      rw [hr9, show zb (decide (fT true 0 2 ≠ 0)) = 1 from by decide]
      refine lv_if_eq (tgt := 38) hx hb dX11_answer_33 (by decide) (fun c_33 => absurd c_33 (by decide)) (fun c_33 => ?_)
      refine lv_iconst (v := 0) hx hb dX11_answer_36 (by decide) ?_
      refine W.widen (k := 1) (n := 800) (Nat.le_of_ble_eq_true rfl) (Nat.le_of_ble_eq_true rfl) ?_
      exact mq_iret (v := 0) hx hb hr hlocks hM hS (⟨2, S2, Y, ad, (spLS_y hj hk hl4 hn).trans (if_neg (by rw [c_21]; decide)), (by have q9 := WR_yt hR1 hg; exact q9), hO.2, adK_id⟩) dX11_answer_37

set_option maxHeartbeats 4000000 in
set_option maxRecDepth 100000 in
theorem c_X11_equation (l : Launch) (G : mq_G) (A : Nat → Prop) (f : mq_F) (n : Nat) : Met l yX11_equation wsX11_equation ({ frames := 0, cells := 1, slots := 4, locals := 0 } : Room) (mq_Pc G A f (n < 1260) [.int (nI n)]) (mq_Qq G A (fun r g => ∃ q, r = some q ∧ f q = none ∧ g = mq_up f q (cIn G 4 (eqF (ex_eq n))))) 1 4 A := by
  refine Met.ofW (cc := cX11_equation) (maxL := 6) (ret := (some (.array .int))) (by decide) rfl ?_
  intro p e s m args below meth c s₁ B hml hv
  obtain ⟨rfl, ⟨hK, hZ, hM, hA⟩, hp⟩ := hv
  have hx := B.exec
  have hb := B.bytes
  have hr := B.returns
  have hts := atoms_spec (ws := wsX11_equation) B.pre
  have hown : s.vm.findClass RX11 = some m.cls := findClass_of_methodNamed B.named
  have hlocks := B.notSynchronized
  have hS : va_S A s.heap s.heap [] := va_S.rf
  have hl := lv_entry ([.int (nI n)]) (n := 6) (Nat.le_of_ble_eq_true rfl)
  rw [lg_entry_eq]
  generalize (lg_sl ([.int (nI n)]) ++ List.replicate (6 - (lg_sl ([.int (nI n)])).length) Slot.unset).toArray = ls at hl ⊢
  have hl : lv_has ls 6 [(0, .int (nI n))] := hl
  have w0 := hts (.arrayClass .int) (List.mem_of_getElem? (i := 1) rfl)
  refine lv_iconst (v := 2) hx hb dX11_equation_0 (by decide) ?_
  refine lv_iload_n hx hb dX11_equation_1 rfl (lv_at hl 0 rfl) ?_
  refine lv_bipush (v := 7) hx hb dX11_equation_2 (by decide) ?_
  refine lv_irem hx hb dX11_equation_4 (by decide) ?_
  rw [show (nI n) - (nI n) / 7 * 7 = nI (n % 7) from pk_rem (a := n) (d := 7) (by omega) (by omega) (by omega)]
  refine lv_iadd hx hb dX11_equation_5 ?_
  rw [show 2 + (nI (n % 7)) = nI (2 + (n % 7)) from nI_add _ _]
  refine lv_istore_n (lv' := [(1, .int (nI (2 + (n % 7)))), (0, .int (nI n))]) hx hb dX11_equation_6 rfl hl (by decide) rfl (fun ls hl => ?_)
  refine lv_iload_n hx hb dX11_equation_7 rfl (lv_at hl 1 rfl) ?_
  refine lv_bipush (v := 7) hx hb dX11_equation_8 (by decide) ?_
  refine lv_idiv hx hb dX11_equation_10 (by decide) ?_
  rw [show (nI n) / 7 = nI (n / 7) from pk_div (a := n) (d := 7) (by omega) (by omega) (by omega)]
  refine lv_iconst (v := 2) hx hb dX11_equation_11 (by decide) ?_
  refine lv_irem hx hb dX11_equation_12 (by decide) ?_
  rw [show (nI (n / 7)) - (nI (n / 7)) / 2 * 2 = nI ((n / 7) % 2) from pk_rem (a := n / 7) (d := 2) (by omega) (by omega) (by omega)]
  refine lv_istore_n (lv' := [(2, .int (nI ((n / 7) % 2))), (1, .int (nI (2 + (n % 7)))), (0, .int (nI n))]) hx hb dX11_equation_13 rfl hl (by decide) rfl (fun ls hl => ?_)
  refine lv_iload_n hx hb dX11_equation_14 rfl (lv_at hl 2 rfl) ?_
  refine lv_bipush (v := 14) hx hb dX11_equation_15 (by decide) ?_
  refine lv_idiv hx hb dX11_equation_17 (by decide) ?_
  rw [show (nI n) / 14 = nI (n / 14) from pk_div (a := n) (d := 14) (by omega) (by omega) (by omega)]
  refine lv_bipush (v := 10) hx hb dX11_equation_18 (by decide) ?_
  refine lv_irem hx hb dX11_equation_20 (by decide) ?_
  rw [show (nI (n / 14)) - (nI (n / 14)) / 10 * 10 = nI ((n / 14) % 10) from pk_rem (a := n / 14) (d := 10) (by omega) (by omega) (by omega)]
  refine lv_iconst (v := 4) hx hb dX11_equation_21 (by decide) ?_
  refine lv_isub hx hb dX11_equation_22 ?_
  refine lv_istore_n (lv' := [(3, .int (ex_sol n)), (2, .int (nI ((n / 7) % 2))), (1, .int (nI (2 + (n % 7)))), (0, .int (nI n))]) hx hb dX11_equation_23 rfl hl (by decide) rfl (fun ls hl => ?_)
  refine lv_iload_n hx hb dX11_equation_24 rfl (lv_at hl 3 rfl) ?_
  refine lv_sipush (v := 140) hx hb dX11_equation_25 (by decide) ?_
  refine lv_idiv hx hb dX11_equation_28 (by decide) ?_
  rw [show (nI n) / 140 = nI (n / 140) from pk_div (a := n) (d := 140) (by omega) (by omega) (by omega)]
  refine lv_bipush (v := 9) hx hb dX11_equation_29 (by decide) ?_
  refine lv_irem hx hb dX11_equation_31 (by decide) ?_
  rw [show (nI (n / 140)) - (nI (n / 140)) / 9 * 9 = nI ((n / 140) % 9) from pk_rem (a := n / 140) (d := 9) (by omega) (by omega) (by omega)]
  refine lv_iconst (v := 4) hx hb dX11_equation_32 (by decide) ?_
  refine lv_isub hx hb dX11_equation_33 ?_
  refine lv_istore (lv' := [(4, .int (ex_b n)), (3, .int (ex_sol n)), (2, .int (nI ((n / 7) % 2))), (1, .int (nI (2 + (n % 7)))), (0, .int (nI n))]) hx hb dX11_equation_34 hl (by decide) rfl (fun ls hl => ?_)
  refine lv_iconst (v := 4) hx hb dX11_equation_36 (by decide) ?_
  refine mq_newI (N' := 4) hx hb w0 hK hM hS hA (by decide) (rfl) (Nat.le_of_ble_eq_true rfl) (Nat.le_of_ble_eq_true rfl) (Nat.le_of_ble_eq_true rfl) dX11_equation_37 (fun q37 f_1 H hq37 e_2 hM hS => ?_)
  refine W.widen (k := 1) (n := 4) (Nat.le_of_ble_eq_true rfl) (Nat.le_of_ble_eq_true rfl) ?_
  have h_3 : f_1 q37 = some (.inl (G.2 0, 4, .inl (fun _ => 0))) := mq_s e_2
  refine lv_dup hx hb dX11_equation_39 rfl ?_
  refine lv_iconst (v := 0) hx hb dX11_equation_40 (by decide) ?_
  refine lv_iload_n hx hb dX11_equation_41 rfl (lv_at hl 3 rfl) ?_
  refine mq_iast hx hb hK hM hS h_3 (vp_in_nI (n := 0) (by decide) (by decide)) dX11_equation_42 (fun f_4 H locs e_5 hM hS => ?_)
  rw [show (0 : Int32).toNatClampNeg = 0 from rfl] at e_5
  have h_6 : f_4 q37 = some (.inl (G.2 0, 4, .inl (upd (fun _ => 0) 0 (nI (2 + (n % 7)))))) := mq_s e_5
  refine lv_dup hx hb dX11_equation_43 rfl ?_
  refine lv_iconst (v := 1) hx hb dX11_equation_44 (by decide) ?_
  refine lv_iload hx hb dX11_equation_45 (lv_at hl 0 rfl) ?_
  refine mq_iast hx hb hK hM hS h_6 (vp_in_nI (n := 1) (by decide) (by decide)) dX11_equation_47 (fun f_7 H locs e_8 hM hS => ?_)
  rw [show (1 : Int32).toNatClampNeg = 1 from rfl] at e_8
  have h_9 : f_7 q37 = some (.inl (G.2 0, 4, .inl (upd (upd (fun _ => 0) 0 (nI (2 + (n % 7)))) 1 (ex_b n)))) := mq_s e_8
  refine lv_dup hx hb dX11_equation_48 rfl ?_
  refine lv_iconst (v := 2) hx hb dX11_equation_49 (by decide) ?_
  refine lv_iload_n hx hb dX11_equation_50 rfl (lv_at hl 2 rfl) ?_
  refine mq_iast hx hb hK hM hS h_9 (vp_in_nI (n := 2) (by decide) (by decide)) dX11_equation_51 (fun f_10 H locs e_11 hM hS => ?_)
  rw [show (2 : Int32).toNatClampNeg = 2 from rfl] at e_11
  have h_12 : f_10 q37 = some (.inl (G.2 0, 4, .inl (upd (upd (upd (fun _ => 0) 0 (nI (2 + (n % 7)))) 1 (ex_b n)) 2 (nI ((n / 7) % 2))))) := mq_s e_11
  refine lv_dup hx hb dX11_equation_52 rfl ?_
  refine lv_iconst (v := 3) hx hb dX11_equation_53 (by decide) ?_
  refine lv_iload_n hx hb dX11_equation_54 rfl (lv_at hl 3 rfl) ?_
  refine lv_iload_n hx hb dX11_equation_55 rfl (lv_at hl 1 rfl) ?_
  refine lv_imul hx hb dX11_equation_56 ?_
  refine lv_iload hx hb dX11_equation_57 (lv_at hl 0 rfl) ?_
  refine lv_iadd hx hb dX11_equation_59 ?_
  refine lv_iload_n hx hb dX11_equation_60 rfl (lv_at hl 2 rfl) ?_
  refine lv_iload_n hx hb dX11_equation_61 rfl (lv_at hl 1 rfl) ?_
  refine lv_imul hx hb dX11_equation_62 ?_
  refine lv_isub hx hb dX11_equation_63 ?_
  refine mq_iast hx hb hK hM hS h_12 (vp_in_nI (n := 3) (by decide) (by decide)) dX11_equation_64 (fun f_13 H locs e_14 hM hS => ?_)
  rw [show (3 : Int32).toNatClampNeg = 3 from rfl] at e_14
  have h_15 : f_13 q37 = some (.inl (G.2 0, 4, .inl (upd (upd (upd (upd (fun _ => 0) 0 (nI (2 + (n % 7)))) 1 (ex_b n)) 2 (nI ((n / 7) % 2))) 3 ((((nI (2 + (n % 7))) * (ex_sol n)) + (ex_b n)) - ((nI ((n / 7) % 2)) * (ex_sol n)))))) := mq_s e_14
  refine lv_astore (lv' := [(5, .ref q37), (4, .int (ex_b n)), (3, .int (ex_sol n)), (2, .int (nI ((n / 7) % 2))), (1, .int (nI (2 + (n % 7)))), (0, .int (nI n))]) hx hb dX11_equation_65 hl (by decide) rfl (fun ls hl => ?_)
  refine lv_aload hx hb dX11_equation_67 (lv_at hl 0 rfl) ?_
  exact mq_aret (r := some q37) rfl hx hb hr (Or.inr ⟨_, rfl⟩) hlocks hM hS (⟨q37, rfl, hq37, by rw [e_14, e_11, e_8, e_5, e_2]; simp only [mq_uu]; rfl⟩) dX11_equation_69

set_option maxHeartbeats 4000000 in
set_option maxRecDepth 100000 in
theorem c_X11_row (l : Launch) (G : mq_G) (A : Nat → Prop) (f : mq_F) (ea eb ec ed : Int32) : Met l yX11_row wsX11_row ({ frames := 0, cells := 1, slots := 4, locals := 0 } : Room) (mq_Pc G A f (True) [.int ea, .int eb, .int ec, .int ed]) (mq_Qq G A (fun r g => ∃ q, r = some q ∧ f q = none ∧ g = mq_up f q (cIn G 4 (eqF ((ea, eb, ec, ed)))))) 1 4 A := by
  refine Met.ofW (cc := cX11_row) (maxL := 5) (ret := (some (.array .int))) (by decide) rfl ?_
  intro p e s m args below meth c s₁ B hml hv
  obtain ⟨rfl, ⟨hK, hZ, hM, hA⟩, hp⟩ := hv
  have hx := B.exec
  have hb := B.bytes
  have hr := B.returns
  have hts := atoms_spec (ws := wsX11_row) B.pre
  have hown : s.vm.findClass RX11 = some m.cls := findClass_of_methodNamed B.named
  have hlocks := B.notSynchronized
  have hS : va_S A s.heap s.heap [] := va_S.rf
  have hl := lv_entry ([.int ea, .int eb, .int ec, .int ed]) (n := 5) (Nat.le_of_ble_eq_true rfl)
  rw [lg_entry_eq]
  generalize (lg_sl ([.int ea, .int eb, .int ec, .int ed]) ++ List.replicate (5 - (lg_sl ([.int ea, .int eb, .int ec, .int ed])).length) Slot.unset).toArray = ls at hl ⊢
  have hl : lv_has ls 5 [(0, .int ea), (1, .int eb), (2, .int ec), (3, .int ed)] := hl
  have w0 := hts (.arrayClass .int) (List.mem_of_getElem? (i := 1) rfl)
  refine lv_iconst (v := 4) hx hb dX11_row_0 (by decide) ?_
  refine mq_newI (N' := 4) hx hb w0 hK hM hS hA (by decide) (rfl) (Nat.le_of_ble_eq_true rfl) (Nat.le_of_ble_eq_true rfl) (Nat.le_of_ble_eq_true rfl) dX11_row_1 (fun q1 f_1 H hq1 e_2 hM hS => ?_)
  refine W.widen (k := 1) (n := 4) (Nat.le_of_ble_eq_true rfl) (Nat.le_of_ble_eq_true rfl) ?_
  have h_3 : f_1 q1 = some (.inl (G.2 0, 4, .inl (fun _ => 0))) := mq_s e_2
  refine lv_dup hx hb dX11_row_3 rfl ?_
  refine lv_iconst (v := 0) hx hb dX11_row_4 (by decide) ?_
  refine lv_iload_n hx hb dX11_row_5 rfl (lv_at hl 0 rfl) ?_
  refine mq_iast hx hb hK hM hS h_3 (vp_in_nI (n := 0) (by decide) (by decide)) dX11_row_6 (fun f_4 H locs e_5 hM hS => ?_)
  rw [show (0 : Int32).toNatClampNeg = 0 from rfl] at e_5
  have h_6 : f_4 q1 = some (.inl (G.2 0, 4, .inl (upd (fun _ => 0) 0 ea))) := mq_s e_5
  refine lv_dup hx hb dX11_row_7 rfl ?_
  refine lv_iconst (v := 1) hx hb dX11_row_8 (by decide) ?_
  refine lv_iload_n hx hb dX11_row_9 rfl (lv_at hl 1 rfl) ?_
  refine mq_iast hx hb hK hM hS h_6 (vp_in_nI (n := 1) (by decide) (by decide)) dX11_row_10 (fun f_7 H locs e_8 hM hS => ?_)
  rw [show (1 : Int32).toNatClampNeg = 1 from rfl] at e_8
  have h_9 : f_7 q1 = some (.inl (G.2 0, 4, .inl (upd (upd (fun _ => 0) 0 ea) 1 eb))) := mq_s e_8
  refine lv_dup hx hb dX11_row_11 rfl ?_
  refine lv_iconst (v := 2) hx hb dX11_row_12 (by decide) ?_
  refine lv_iload_n hx hb dX11_row_13 rfl (lv_at hl 2 rfl) ?_
  refine mq_iast hx hb hK hM hS h_9 (vp_in_nI (n := 2) (by decide) (by decide)) dX11_row_14 (fun f_10 H locs e_11 hM hS => ?_)
  rw [show (2 : Int32).toNatClampNeg = 2 from rfl] at e_11
  have h_12 : f_10 q1 = some (.inl (G.2 0, 4, .inl (upd (upd (upd (fun _ => 0) 0 ea) 1 eb) 2 ec))) := mq_s e_11
  refine lv_dup hx hb dX11_row_15 rfl ?_
  refine lv_iconst (v := 3) hx hb dX11_row_16 (by decide) ?_
  refine lv_iload_n hx hb dX11_row_17 rfl (lv_at hl 3 rfl) ?_
  refine mq_iast hx hb hK hM hS h_12 (vp_in_nI (n := 3) (by decide) (by decide)) dX11_row_18 (fun f_13 H locs e_14 hM hS => ?_)
  rw [show (3 : Int32).toNatClampNeg = 3 from rfl] at e_14
  have h_15 : f_13 q1 = some (.inl (G.2 0, 4, .inl (upd (upd (upd (upd (fun _ => 0) 0 ea) 1 eb) 2 ec) 3 ed))) := mq_s e_14
  refine lv_astore (lv' := [(4, .ref q1), (0, .int ea), (1, .int eb), (2, .int ec), (3, .int ed)]) hx hb dX11_row_19 hl (by decide) rfl (fun ls hl => ?_)
  refine lv_aload hx hb dX11_row_21 (lv_at hl 0 rfl) ?_
  exact mq_aret (r := some q1) rfl hx hb hr (Or.inr ⟨_, rfl⟩) hlocks hM hS (⟨q1, rfl, hq1, by rw [e_14, e_11, e_8, e_5, e_2]; simp only [mq_uu]; rfl⟩) dX11_row_23

set_option maxHeartbeats 4000000 in
set_option maxRecDepth 100000 in
theorem c_X11_areSame (l : Launch) (G : mq_G) (A : Nat → Prop) (f : mq_F) (x y : Nat) (u9 v9 : eqT) : Met l yX11_areSame wsX11_areSame ({ frames := 0, cells := 0, slots := 0, locals := 0 } : Room) (mq_Pc G A f (f x = some (cIn G 4 (eqF u9)) ∧ f y = some (cIn G 4 (eqF v9))) [.ref x, .ref y]) (mq_Qi G A (fun r g => f = g ∧ r = zb (decide (u9 = v9)))) 0 0 A := by
  refine Met.ofW (cc := cX11_areSame) (maxL := 2) (ret := (some .boolean)) (by decide) rfl ?_
  intro p e s m args below meth c s₁ B hml hv
  obtain ⟨rfl, ⟨hK, hZ, hM, hA⟩, hp⟩ := hv
  have hx := B.exec
  have hb := B.bytes
  have hr := B.returns
  have hts := atoms_spec (ws := wsX11_areSame) B.pre
  have hown : s.vm.findClass RX11 = some m.cls := findClass_of_methodNamed B.named
  have hlocks := B.notSynchronized
  have hS : va_S A s.heap s.heap [] := va_S.rf
  have hl := lv_entry ([.ref x, .ref y]) (n := 2) (Nat.le_of_ble_eq_true rfl)
  rw [lg_entry_eq]
  generalize (lg_sl ([.ref x, .ref y]) ++ List.replicate (2 - (lg_sl ([.ref x, .ref y])).length) Slot.unset).toArray = ls at hl ⊢
  have hl : lv_has ls 2 [(0, .ref x), (1, .ref y)] := hl
  obtain ⟨h0, h1⟩ := hp
  refine lv_aload_n hx hb dX11_areSame_0 rfl (lv_at hl 0 rfl) ?_
  refine lv_iconst (v := 0) hx hb dX11_areSame_1 (by decide) ?_
  refine mq_iald hx hb hK hM h0 (vp_in_nI (n := 0) (by decide) (by decide)) dX11_areSame_2 ?_
  rw [show (0 : Int32).toNatClampNeg = 0 from rfl]
  rw [show (eqF u9) 0 = u9.1 from rfl]
  refine lv_aload_n hx hb dX11_areSame_3 rfl (lv_at hl 1 rfl) ?_
  refine lv_iconst (v := 0) hx hb dX11_areSame_4 (by decide) ?_
  refine mq_iald hx hb hK hM h1 (vp_in_nI (n := 0) (by decide) (by decide)) dX11_areSame_5 ?_
  rw [show (0 : Int32).toNatClampNeg = 0 from rfl]
  rw [show (eqF v9) 0 = v9.1 from rfl]
  refine lv_icmp_ne (tgt := 40) hx hb dX11_areSame_6 (by decide) (fun c_6 => ?_) (fun c_6 => ?_)
  · refine lv_iconst (v := 0) hx hb dX11_areSame_40 (by decide) ?_
    exact mq_zret (v := 0) hx hb hr (rfl) hlocks hM hS (⟨rfl, congrArg zb (decide_eq_false (fun h9 => c_6 (congrArg (fun w : eqT => w.1) h9))).symm⟩) dX11_areSame_41
  · refine lv_aload_n hx hb dX11_areSame_9 rfl (lv_at hl 0 rfl) ?_
    refine lv_iconst (v := 1) hx hb dX11_areSame_10 (by decide) ?_
    refine mq_iald hx hb hK hM h0 (vp_in_nI (n := 1) (by decide) (by decide)) dX11_areSame_11 ?_
    rw [show (1 : Int32).toNatClampNeg = 1 from rfl]
    rw [show (eqF u9) 1 = u9.2.1 from rfl]
    refine lv_aload_n hx hb dX11_areSame_12 rfl (lv_at hl 1 rfl) ?_
    refine lv_iconst (v := 1) hx hb dX11_areSame_13 (by decide) ?_
    refine mq_iald hx hb hK hM h1 (vp_in_nI (n := 1) (by decide) (by decide)) dX11_areSame_14 ?_
    rw [show (1 : Int32).toNatClampNeg = 1 from rfl]
    rw [show (eqF v9) 1 = v9.2.1 from rfl]
    refine lv_icmp_ne (tgt := 40) hx hb dX11_areSame_15 (by decide) (fun c_15 => ?_) (fun c_15 => ?_)
    · refine lv_iconst (v := 0) hx hb dX11_areSame_40 (by decide) ?_
      exact mq_zret (v := 0) hx hb hr (rfl) hlocks hM hS (⟨rfl, congrArg zb (decide_eq_false (fun h9 => c_15 (congrArg (fun w : eqT => w.2.1) h9))).symm⟩) dX11_areSame_41
    · refine lv_aload_n hx hb dX11_areSame_18 rfl (lv_at hl 0 rfl) ?_
      refine lv_iconst (v := 2) hx hb dX11_areSame_19 (by decide) ?_
      refine mq_iald hx hb hK hM h0 (vp_in_nI (n := 2) (by decide) (by decide)) dX11_areSame_20 ?_
      rw [show (2 : Int32).toNatClampNeg = 2 from rfl]
      rw [show (eqF u9) 2 = u9.2.2.1 from rfl]
      refine lv_aload_n hx hb dX11_areSame_21 rfl (lv_at hl 1 rfl) ?_
      refine lv_iconst (v := 2) hx hb dX11_areSame_22 (by decide) ?_
      refine mq_iald hx hb hK hM h1 (vp_in_nI (n := 2) (by decide) (by decide)) dX11_areSame_23 ?_
      rw [show (2 : Int32).toNatClampNeg = 2 from rfl]
      rw [show (eqF v9) 2 = v9.2.2.1 from rfl]
      refine lv_icmp_ne (tgt := 40) hx hb dX11_areSame_24 (by decide) (fun c_24 => ?_) (fun c_24 => ?_)
      · refine lv_iconst (v := 0) hx hb dX11_areSame_40 (by decide) ?_
        exact mq_zret (v := 0) hx hb hr (rfl) hlocks hM hS (⟨rfl, congrArg zb (decide_eq_false (fun h9 => c_24 (congrArg (fun w : eqT => w.2.2.1) h9))).symm⟩) dX11_areSame_41
      · refine lv_aload_n hx hb dX11_areSame_27 rfl (lv_at hl 0 rfl) ?_
        refine lv_iconst (v := 3) hx hb dX11_areSame_28 (by decide) ?_
        refine mq_iald hx hb hK hM h0 (vp_in_nI (n := 3) (by decide) (by decide)) dX11_areSame_29 ?_
        rw [show (3 : Int32).toNatClampNeg = 3 from rfl]
        rw [show (eqF u9) 3 = u9.2.2.2 from rfl]
        refine lv_aload_n hx hb dX11_areSame_30 rfl (lv_at hl 1 rfl) ?_
        refine lv_iconst (v := 3) hx hb dX11_areSame_31 (by decide) ?_
        refine mq_iald hx hb hK hM h1 (vp_in_nI (n := 3) (by decide) (by decide)) dX11_areSame_32 ?_
        rw [show (3 : Int32).toNatClampNeg = 3 from rfl]
        rw [show (eqF v9) 3 = v9.2.2.2 from rfl]
        refine lv_icmp_ne (tgt := 40) hx hb dX11_areSame_33 (by decide) (fun c_33 => ?_) (fun c_33 => ?_)
        · refine lv_iconst (v := 0) hx hb dX11_areSame_40 (by decide) ?_
          exact mq_zret (v := 0) hx hb hr (rfl) hlocks hM hS (⟨rfl, congrArg zb (decide_eq_false (fun h9 => c_33 (congrArg (fun w : eqT => w.2.2.2) h9))).symm⟩) dX11_areSame_41
        · refine lv_iconst (v := 1) hx hb dX11_areSame_36 (by decide) ?_
          refine lv_goto (tgt := 41) hx hb dX11_areSame_37 (by decide) ?_
          exact mq_zret (v := 1) hx hb hr (rfl) hlocks hM hS (⟨rfl, congrArg zb (decide_eq_true (Prod.ext c_6 (Prod.ext c_15 (Prod.ext c_24 c_33)))).symm⟩) dX11_areSame_41

set_option maxHeartbeats 4000000 in
set_option maxRecDepth 100000 in
theorem c_X11_wasLately (l : Launch) (G : mq_G) (A : Nat → Prop) (f : mq_F) (ad : AD) (S : AT) (X : CX) (S2 : AT) (Y : MX) (O : OX) (T : Nat) (j y w : Nat) : Met l yX11_wasLately wsX11_wasLately ({ frames := 10, cells := 0, slots := 0, locals := 184 } : Room) (mq_Pc G A f (WR G f ad S X S2 Y O ∧ mOK S2 Y T ∧ j < aL S2 ∧ f y = some (cIn G 4 (eqF (ex_eq w))) ∧ w < 1260) [.ref (ad 27 j 0), .ref y]) (mq_Qi G A (fun r g => f = g ∧ r = zb (lat (lMd (aE S2 j)) w))) 0 0 A := by
  refine Met.ofW (cc := cX11_wasLately) (maxL := 4) (ret := (some .boolean)) (by decide) rfl ?_
  intro p e s m args below meth c s₁ B hml hv
  obtain ⟨rfl, ⟨hK, hZ, hM, hA⟩, hp⟩ := hv
  have hx := B.exec
  have hb := B.bytes
  have hr := B.returns
  have hts := atoms_spec (ws := wsX11_wasLately) B.pre
  have hown : s.vm.findClass RX11 = some m.cls := findClass_of_methodNamed B.named
  have hlocks := B.notSynchronized
  have hS : va_S A s.heap s.heap [] := va_S.rf
  have hl := lv_entry ([.ref (ad 27 j 0), .ref y]) (n := 4) (Nat.le_of_ble_eq_true rfl)
  rw [lg_entry_eq]
  generalize (lg_sl ([.ref (ad 27 j 0), .ref y]) ++ List.replicate (4 - (lg_sl ([.ref (ad 27 j 0), .ref y])).length) Slot.unset).toArray = ls at hl ⊢
  have hl : lv_has ls 4 [(0, .ref (ad 27 j 0)), (1, .ref y)] := hl
  have w0 := hts (.fieldLink RX11 163 "TutorlightModel$Learner" "made" "Ljava/util/ArrayList;") (List.mem_of_getElem? (i := 1) rfl)
  have w1 := hts (.methodLink RX11 166 Lib.Math.max.name) (List.mem_of_getElem? (i := 2) rfl)
  have w2 := hts (.static Lib.Math.max.name) (List.mem_of_getElem? (i := 3) rfl)
  have w3 := hts (.initialized "java/lang/Math") (List.mem_of_getElem? (i := 4) rfl)
  have w4 := hts (.code Lib.Math.max.name Lib.Math.max.code 2 (some .int)) (List.mem_of_getElem? (i := 5) rfl)
  have w5 := hts (.classLink RX11 172 "[I") (List.mem_of_getElem? (i := 6) rfl)
  have nX9 : ∀ w ∈ wsX90, w ∈ wsX11_wasLately := fun _ h => List.mem_cons_of_mem _ (List.mem_append_left _ (List.mem_append_left _ (List.mem_append_right _ h)))
  obtain ⟨hR, hO, hj, h2, hw6⟩ := hp
  obtain ⟨⟨X9, ⟨hn, hl4, hd2, hT⟩, hsk, hma, hdc, hle, -⟩, ⟨hns, hnc⟩, ⟨hls, hlc⟩, hac, hmc⟩ := id hO
  obtain ⟨-, ⟨-, hmd, -⟩, hmL9⟩ := hle j hj
  have hmc1 := hmc j hj
  have y27_271 := hR.1 _ _ _ _ (t27 (j := j) hj)
  have y32_272 := hR.1 _ _ _ _ (t32 (j := j) hj)
  refine lv_iconst (v := 0) hx hb dX11_wasLately_0 (by decide) ?_
  refine lv_istore_n (lv' := [(2, .int 0), (0, .ref (ad 27 j 0)), (1, .ref y)]) hx hb dX11_wasLately_1 rfl hl (by decide) rfl (fun ls hl => ?_)
  refine lv_iconst (v := 0) hx hb dX11_wasLately_2 (by decide) ?_
  refine lv_aload_n hx hb dX11_wasLately_3 rfl (lv_at hl 1 rfl) ?_
  refine mq_get (ci := 14) (v := .ref (ad 32 j 0)) (C := RX9) (T := TX9) (N := 8) hx hb hts nX9 hown hK hM y27_271 rfl 1 (by decide) w0 (fun _ h9 => h9) rfl dX11_wasLately_4 ?_
  refine mq_calli (va_runV (As := []) (rest := [.int 0]) ⟨hx, hb, hml, hown, hts⟩ (c_Jx4a65c_size_8abf5 l G A f (ad 32 j 0) (yM Y j).1 (lsD G (yM Y j).2 (ad 33 j 0)) (lMd (aE S2 j)).length) (cwV 0 hts gX11_wasLately_Jx4a65c_size_8abf5 rfl rfl rfl (by decide +kernel) ⟨Nat.le_of_ble_eq_true rfl, Nat.le_of_ble_eq_true rfl⟩) (mq_preV hK hZ hS hA hM (q := (RJx4a65c, TJx4a65c, 3)) y32_272 rfl (y32_272) _) rfl rfl hl.1 rfl (lv_room (Nat.le_of_ble_eq_true rfl)) dX11_wasLately_7 ⟨Nat.le_of_ble_eq_true rfl, Nat.le_of_ble_eq_true rfl⟩) hS (fun r7 g7 H locs p7 hM hS => ?_)
  refine W.widen (k := 0) (n := 0) (Nat.le_of_ble_eq_true rfl) (Nat.le_of_ble_eq_true rfl) ?_
  obtain ⟨rfl, rfl⟩ := p7
  refine lv_iconst (v := 3) hx hb dX11_wasLately_10 (by decide) ?_
  refine lv_isub hx hb dX11_wasLately_11 ?_
  rw [show (nI ((lMd (aE S2 j)).length)) - 3 = nI ((lMd (aE S2 j)).length) - 3 from rfl]
  refine va_mmax hx hb (hml.trans hl.1.symm) hown w1 w2 w3 w4 (Nat.le_of_ble_eq_true rfl) (Nat.le_of_ble_eq_true rfl) (Nat.le_of_ble_eq_true rfl) (Nat.le_of_ble_eq_true rfl) dX11_wasLately_12 ?_
  rw [show (if 0 < (nI ((lMd (aE S2 j)).length) - 3) then (nI ((lMd (aE S2 j)).length) - 3) else 0 : Int32) = nI ((lMd (aE S2 j)).length - 3) from mx3 (by omega)]
  refine lv_istore_n (lv' := [(3, .int (nI ((lMd (aE S2 j)).length - 3))), (2, .int 0), (0, .ref (ad 27 j 0)), (1, .ref y)]) hx hb dX11_wasLately_15 rfl hl (by decide) rfl (fun ls hl => ?_)
  have K16 : ∀ (n9 : Nat) (d : Nat) (wb : Bool), (3 - d) < n9 → ((lMd (aE S2 j)).length - 3 + d ≤ (lMd (aE S2 j)).length) → (wb = laF (lMd (aE S2 j)) w ((lMd (aE S2 j)).length - 3) d) → ∀ (H : Heap) (locs : List Loc), mq_W G.1 A f H → va_S A s.heap H locs → ∀ (ls : Array Slot), lv_has ls 4 [(0, .ref (ad 27 j 0)), (1, .ref y), (2, .int (zb wb)), (3, .int (nI ((lMd (aE S2 j)).length - 3 + d)))] → W p l e (headSpec wsX11_wasLately ({ frames := 10, cells := 0, slots := 0, locals := 184 } : Room)).room s m ([.ref (ad 27 j 0), .ref y] : List Value).toArray below meth c H locs 0 0 (MQ below (mq_Qi G A (fun r g => f = g ∧ r = zb (lat (lMd (aE S2 j)) w))) ([.ref (ad 27 j 0), .ref y] : List Value).toArray s 0 0 A) (F0 m 16 ls []) := by
    intro n9
    induction n9 with
    | zero => intro d wb hn9; exact absurd hn9 (Nat.not_lt_zero _)
    | succ n9 ih16 =>
      intro d wb hn9 hd hw H locs hM hS ls hl
      refine lv_iload_n hx hb dX11_wasLately_16 rfl (lv_at hl 3 rfl) ?_
      refine lv_aload_n hx hb dX11_wasLately_17 rfl (lv_at hl 0 rfl) ?_
      refine mq_get (ci := 14) (v := .ref (ad 32 j 0)) (C := RX9) (T := TX9) (N := 8) hx hb hts nX9 hown hK hM y27_271 rfl 1 (by decide) w0 (fun _ h9 => h9) rfl dX11_wasLately_18 ?_
      refine mq_calli (va_runV (As := []) (rest := [.int (nI ((lMd (aE S2 j)).length - 3 + d))]) ⟨hx, hb, hml, hown, hts⟩ (c_Jx4a65c_size_8abf5 l G A f (ad 32 j 0) (yM Y j).1 (lsD G (yM Y j).2 (ad 33 j 0)) (lMd (aE S2 j)).length) (cwV 0 hts gX11_wasLately_Jx4a65c_size_8abf5 rfl rfl rfl (by decide +kernel) ⟨Nat.le_of_ble_eq_true rfl, Nat.le_of_ble_eq_true rfl⟩) (mq_preV hK hZ hS hA hM (q := (RJx4a65c, TJx4a65c, 3)) y32_272 rfl (y32_272) _) rfl rfl hl.1 rfl (lv_room (Nat.le_of_ble_eq_true rfl)) dX11_wasLately_21 ⟨Nat.le_of_ble_eq_true rfl, Nat.le_of_ble_eq_true rfl⟩) hS (fun r21 g21 H locs p21 hM hS => ?_)
      refine W.widen (k := 0) (n := 0) (Nat.le_of_ble_eq_true rfl) (Nat.le_of_ble_eq_true rfl) ?_
      obtain ⟨rfl, rfl⟩ := p21
      refine lv_icmp_ge (tgt := 61) hx hb dX11_wasLately_24 (by decide) (fun c_24 => ?_) (fun c_24 => ?_)
      · replace c_24 : nI ((lMd (aE S2 j)).length) ≤ nI ((lMd (aE S2 j)).length - 3 + d) := c_24
        rw [nI_leI (by omega) (by omega)] at c_24
        refine lv_iload_n hx hb dX11_wasLately_61 rfl (lv_at hl 2 rfl) ?_
        exact mq_zret (v := zb wb) hx hb hr (zb_nar _) hlocks hM hS (⟨rfl, by rw [hw, laF_lat (by omega)]⟩) dX11_wasLately_62
      · replace c_24 : ¬ nI ((lMd (aE S2 j)).length) ≤ nI ((lMd (aE S2 j)).length - 3 + d) := c_24
        rw [nI_leI (by omega) (by omega)] at c_24
        refine lv_iload_n hx hb dX11_wasLately_27 rfl (lv_at hl 2 rfl) ?_
        refine lv_if_ne (tgt := 49) hx hb dX11_wasLately_28 (by decide) (fun c_28 => ?_) (fun c_28 => ?_)
        · replace c_28 : ¬ zb wb = 0 := c_28
          rw [zb_n0] at c_28
          refine lv_iconst (v := 1) hx hb dX11_wasLately_49 (by decide) ?_
          refine lv_goto (tgt := 54) hx hb dX11_wasLately_50 (by decide) ?_
          refine lv_istore_n (lv' := [(2, .int 1), (0, .ref (ad 27 j 0)), (1, .ref y), (3, .int (nI ((lMd (aE S2 j)).length - 3 + d)))]) hx hb dX11_wasLately_54 rfl hl (by decide) rfl (fun ls hl => ?_)
          refine lv_iinc (v := nI (((lMd (aE S2 j)).length - 3 + d) + 1)) (lv' := [(3, .int (nI (((lMd (aE S2 j)).length - 3 + d) + 1))), (2, .int 1), (0, .ref (ad 27 j 0)), (1, .ref y)]) hx hb dX11_wasLately_55 hl (k := 3) rfl (nI_add _ _) (by decide) rfl (fun ls hl => ?_)
          refine lv_goto (tgt := 16) hx hb dX11_wasLately_58 (by decide) ?_
          exact ih16 (d + 1) true (by omega) (by omega) (by rw [laF_S, ← hw, c_28]; rfl) _ _ hM hS _ (lv_sub hl [2, 3, 1, 0] rfl)
        · replace c_28 : zb wb = 0 := c_28
          rw [zb_0] at c_28
          have hcm : (yM Y j).2 ≠ 0 := by have := hmc1.1; omega
          have hm9 := md_lt hmd (i := (lMd (aE S2 j)).length - 3 + d) (by omega)
          have y132_268 := hR.1 _ _ _ _ (t132 (j := j) hcm hj)
          have y33_269 := hR.1 _ _ _ _ (t33 (j := j) hcm hj)
          have y34_270 := hR.1 _ _ _ _ (t34 (j := j) (k := (lMd (aE S2 j)).length - 3 + d) hj (by omega))
          refine lv_aload_n hx hb dX11_wasLately_31 rfl (lv_at hl 0 rfl) ?_
          refine mq_get (ci := 14) (v := .ref (ad 32 j 0)) (C := RX9) (T := TX9) (N := 8) hx hb hts nX9 hown hK hM y27_271 rfl 1 (by decide) w0 (fun _ h9 => h9) rfl dX11_wasLately_32 ?_
          refine lv_iload_n hx hb dX11_wasLately_35 rfl (lv_at hl 3 rfl) ?_
          refine mq_callq (va_runV (As := [.int (nI ((lMd (aE S2 j)).length - 3 + d))]) (rest := []) ⟨hx, hb, hml, hown, hts⟩ (c_Jx4a65c_get_915e3 l G A f (ad 32 j 0) (yM Y j).1 (ad 33 j 0) (yM Y j).2 (lMd (aE S2 j)).length ((lMd (aE S2 j)).length - 3 + d) (fun i => ad 34 j i)) (cwV 1 hts gX11_wasLately_Jx4a65c_get_915e3 rfl rfl rfl (by decide +kernel) ⟨Nat.le_of_ble_eq_true rfl, Nat.le_of_ble_eq_true rfl⟩) (mq_preV hK hZ hS hA hM (q := (RJx4a65c, TJx4a65c, 3)) y132_268 rfl (⟨y132_268, y33_269, by omega, hmc1.1, hmc1.2⟩) _) rfl rfl hl.1 rfl (lv_room (Nat.le_of_ble_eq_true rfl)) dX11_wasLately_36 ⟨Nat.le_of_ble_eq_true rfl, Nat.le_of_ble_eq_true rfl⟩) hS (fun r36 g36 H locs p36 hM hS => ?_)
          refine W.widen (k := 0) (n := 0) (Nat.le_of_ble_eq_true rfl) (Nat.le_of_ble_eq_true rfl) ?_
          obtain ⟨rfl, rfl⟩ := p36
          refine mq_castG hx hb hown w5 (mq_recI hK hM y34_270) dX11_wasLately_39 ?_
          refine lv_aload_n hx hb dX11_wasLately_42 rfl (lv_at hl 1 rfl) ?_
          refine mq_calli (va_runS (As := [.ref (ad 34 j ((lMd (aE S2 j)).length - 3 + d)), .ref y]) (rest := []) ⟨hx, hb, hml, hown, hts⟩ (c_X11_areSame l G A f (ad 34 j ((lMd (aE S2 j)).length - 3 + d)) y (ex_eq ((lMd (aE S2 j)).getD ((lMd (aE S2 j)).length - 3 + d) 0)) (ex_eq w)) (va_cwS 2 hts gX11_wasLately_X11_areSame rfl rfl rfl (by decide +kernel) ⟨Nat.le_of_ble_eq_true rfl, Nat.le_of_ble_eq_true rfl⟩) (mq_preS hK hZ hS hA hM (⟨y34_270, h2⟩) _) rfl rfl hl.1 rfl (lv_room (Nat.le_of_ble_eq_true rfl)) dX11_wasLately_43 ⟨Nat.le_of_ble_eq_true rfl, Nat.le_of_ble_eq_true rfl⟩) hS (fun r43 g43 H locs p43 hM hS => ?_)
          refine W.widen (k := 0) (n := 0) (Nat.le_of_ble_eq_true rfl) (Nat.le_of_ble_eq_true rfl) ?_
          obtain ⟨rfl, rfl⟩ := p43
          refine lv_if_eq (tgt := 53) hx hb dX11_wasLately_46 (by decide) (fun c_46 => ?_) (fun c_46 => ?_)
          · replace c_46 : zb (decide (ex_eq ((lMd (aE S2 j)).getD ((lMd (aE S2 j)).length - 3 + d) 0) = ex_eq w)) = 0 := c_46
            rw [zb_0] at c_46
            refine lv_iconst (v := 0) hx hb dX11_wasLately_53 (by decide) ?_
            refine lv_istore_n (lv' := [(2, .int 0), (0, .ref (ad 27 j 0)), (1, .ref y), (3, .int (nI ((lMd (aE S2 j)).length - 3 + d)))]) hx hb dX11_wasLately_54 rfl hl (by decide) rfl (fun ls hl => ?_)
            refine lv_iinc (v := nI (((lMd (aE S2 j)).length - 3 + d) + 1)) (lv' := [(3, .int (nI (((lMd (aE S2 j)).length - 3 + d) + 1))), (2, .int 0), (0, .ref (ad 27 j 0)), (1, .ref y)]) hx hb dX11_wasLately_55 hl (k := 3) rfl (nI_add _ _) (by decide) rfl (fun ls hl => ?_)
            refine lv_goto (tgt := 16) hx hb dX11_wasLately_58 (by decide) ?_
            exact ih16 (d + 1) false (by omega) (by omega) (by rw [laF_S, ← hw, c_28, decide_eq_false (fun q => of_decide_eq_false c_46 (by rw [q]))]; rfl) _ _ hM hS _ (lv_sub hl [2, 3, 1, 0] rfl)
          · replace c_46 : ¬ zb (decide (ex_eq ((lMd (aE S2 j)).getD ((lMd (aE S2 j)).length - 3 + d) 0) = ex_eq w)) = 0 := c_46
            rw [zb_n0] at c_46
            refine lv_iconst (v := 1) hx hb dX11_wasLately_49 (by decide) ?_
            refine lv_goto (tgt := 54) hx hb dX11_wasLately_50 (by decide) ?_
            refine lv_istore_n (lv' := [(2, .int 1), (0, .ref (ad 27 j 0)), (1, .ref y), (3, .int (nI ((lMd (aE S2 j)).length - 3 + d)))]) hx hb dX11_wasLately_54 rfl hl (by decide) rfl (fun ls hl => ?_)
            refine lv_iinc (v := nI (((lMd (aE S2 j)).length - 3 + d) + 1)) (lv' := [(3, .int (nI (((lMd (aE S2 j)).length - 3 + d) + 1))), (2, .int 1), (0, .ref (ad 27 j 0)), (1, .ref y)]) hx hb dX11_wasLately_55 hl (k := 3) rfl (nI_add _ _) (by decide) rfl (fun ls hl => ?_)
            refine lv_goto (tgt := 16) hx hb dX11_wasLately_58 (by decide) ?_
            exact ih16 (d + 1) true (by omega) (by omega) (by rw [laF_S, ← hw, c_28, decide_eq_true (ex_inj hm9 hw6 (of_decide_eq_true c_46))]; rfl) _ _ hM hS _ (lv_sub hl [2, 3, 1, 0] rfl)
  exact K16 _ 0 false (Nat.lt_succ_self _) (by omega) (rfl) _ _ hM hS _ (lv_sub hl [2, 3, 1, 0] rfl)
