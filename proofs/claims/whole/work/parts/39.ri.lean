/-! THE REFERENCE: reviews, reviewAt, choose -/
theorem ffd_is {p : Nat → Bool} : ∀ {n w t : Nat}, t < n → p (w + t) = false → (∀ i, i < t → p (w + i) = true) → ffd p n w = w + t
  | 0, _, _, h, _, _ => absurd h (Nat.not_lt_zero _)
  | n + 1, w, 0, _, h1, _ => ffd_f h1
  | n + 1, w, t + 1, h, h1, h2 => by
    rw [ffd_t (w := w) (h2 0 (Nat.succ_pos t)), ffd_is (t := t) (by omega) (by rw [show w + 1 + t = w + (t + 1) by omega]; exact h1) fun i hi => by rw [show w + 1 + i = w + (i + 1) by omega]; exact h2 (i + 1) (by omega)]
    omega
theorem ffd_no {p : Nat → Bool} : ∀ {n w : Nat}, (∀ i, i < n → p (w + i) = true) → ffd p n w = w + n
  | 0, _, _ => rfl
  | n + 1, w, h => by
    rw [ffd_t (w := w) (h 0 (Nat.succ_pos n)), ffd_no fun i hi => by rw [show w + 1 + i = w + (i + 1) by omega]; exact h (i + 1) (by omega)]
    omega
theorem rah_at {S : AT} {j i : Nat} (hi : i < (dqL S j).length) : dueB S j ((dqL S j).getD i 0) = true ∧ (dqL S j).getD i 0 < aN S ∧ rah S j ((dqL S j).getD i 0) = i := ⟨((due_rk S j).1 i hi).2.1, ((due_rk S j).1 i hi).1, ((due_rk S j).1 i hi).2.2⟩
theorem rv_at {S : AT} {j i : Nat} (hn : aN S ≤ 10) (hi : i < (dqL S j).length) : ffd (rvP S j (nI i)) (aN S) 0 = (dqL S j).getD i 0 := by
  obtain ⟨h1, h2, h3⟩ := rah_at hi
  have hle := rkL_le (due_rk S j)
  refine (ffd_is (w := 0) (t := (dqL S j).getD i 0) h2 ?_ fun k hk => ?_).trans (Nat.zero_add _)
  · rw [Nat.zero_add]
    unfold rvP
    rw [h1, h3, decide_eq_true rfl]; rfl
  · rw [Nat.zero_add]
    unfold rvP
    cases hd : dueB S j k with
    | false => rfl
    | true =>
      obtain ⟨i', e1, e2⟩ := (due_rk S j).2.1 k (by omega) hd
      obtain ⟨_, _, g3⟩ := rah_at e1
      rw [e2] at g3
      rw [g3, decide_eq_false (p := nI i' = nI i)]; rfl
      intro q
      rw [nI_eq (by omega) (by omega)] at q
      rw [q] at e2
      omega
theorem rv_no {S : AT} {j : Nat} {ix : Int32} (hn : aN S ≤ 10) (h : vI ix (dqL S j).length = false) : ffd (rvP S j ix) (aN S) 0 = aN S := by
  have hle := rkL_le (due_rk S j)
  refine (ffd_no (w := 0) fun k hk => ?_).trans (Nat.zero_add _)
  rw [Nat.zero_add]
  unfold rvP
  cases hd : dueB S j k with
  | false => rfl
  | true =>
    obtain ⟨i', e1, e2⟩ := (due_rk S j).2.1 k hk hd
    obtain ⟨_, _, g3⟩ := rah_at e1
    rw [e2] at g3
    rw [g3, decide_eq_false (p := nI i' = ix)]; rfl
    intro q
    rw [← q, vI_nI e1 (by omega)] at h
    cases h
theorem rvV_y {S : AT} {j t : Nat} (hn : aN S ≤ 10) (ht : t < (dqL S j).length) : (if ffd (rvP S j (nI t)) (aN S) 0 < aN S then ((0 : Nat), nI (ffd (rvP S j (nI t)) (aN S) 0)) else (2, 0)) = (0, nI ((dqL S j).getD t 0)) := by
  rw [rv_at hn ht, if_pos (rah_at ht).2.1]
theorem rvV_n {S : AT} {j : Nat} {ix : Int32} (hn : aN S ≤ 10) (h : vI ix (dqL S j).length = false) : (if ffd (rvP S j ix) (aN S) 0 < aN S then ((0 : Nat), nI (ffd (rvP S j ix) (aN S) 0)) else (2, 0)) = (2, 0) := by
  rw [rv_no hn h, if_neg (Nat.lt_irrefl _)]
def dqo (S : AT) (j k : Nat) : Bool := dueB S j k && opn S j k
theorem frL_spec (S : AT) (j : Nat) : ∀ n, (frL S j n = 0 ∧ ∀ k, k < n → dqo S j k = false) ∨ ∃ b, frL S j n = b + 1 ∧ b < n ∧ dqo S j b = true ∧ ∀ k, k < n → dqo S j k = true → mlt (aM S j) k b = false
  | 0 => Or.inl ⟨rfl, fun k hk => absurd hk (Nat.not_lt_zero k)⟩
  | n + 1 => by
    have ih := frL_spec S j n
    have hs : frL S j (n + 1) = frS S j (frL S j n) n := rfl
    unfold frS at hs
    cases hq : dqo S j n with
    | false =>
      have e : frL S j (n + 1) = frL S j n := by
        rw [hs, if_neg]
        intro q
        rw [Bool.and_eq_true, Bool.and_eq_true] at q
        unfold dqo at hq; rw [q.1, q.2.2] at hq; cases hq
      rw [e]
      rcases ih with ⟨h1, h2⟩ | ⟨b, h1, h2, h3, h4⟩
      · exact Or.inl ⟨h1, fun k hk => if hkn : k = n then by rw [hkn]; exact hq else h2 k (by omega)⟩
      · refine Or.inr ⟨b, h1, by omega, h3, fun k hk hkq => ?_⟩
        by_cases hkn : k = n
        · rw [hkn, hq] at hkq; cases hkq
        · exact h4 k (by omega) hkq
    | true =>
      have q12 := hq
      unfold dqo at q12
      rw [Bool.and_eq_true] at q12
      rw [q12.1, q12.2, Bool.and_true, Bool.true_and] at hs
      rcases ih with ⟨h1, h2⟩ | ⟨b, h1, h2, h3, h4⟩
      · refine Or.inr ⟨n, by rw [hs, h1]; exact if_pos (decide_eq_true (Or.inl rfl)), Nat.lt_succ_self n, hq, fun k hk hkq => ?_⟩
        by_cases hkn : k = n
        · rw [hkn]; exact mlt_rr
        · rw [h2 k (by omega)] at hkq; cases hkq
      · by_cases hm : mDu (aM S j n) < mDu (aM S j b)
        · refine Or.inr ⟨n, by rw [hs, h1]; exact if_pos (decide_eq_true (Or.inr (by rw [Nat.add_sub_cancel]; exact hm))), Nat.lt_succ_self n, hq, fun k hk hkq => ?_⟩
          by_cases hkn : k = n
          · rw [hkn]; exact mlt_rr
          · have := of_decide_eq_false (h4 k (by omega) hkq)
            exact decide_eq_false (by omega)
        · refine Or.inr ⟨b, ?_, by omega, h3, fun k hk hkq => ?_⟩
          · rw [hs, h1, if_neg]
            rw [decide_eq_true_eq, Nat.add_sub_cancel]; omega
          · by_cases hkn : k = n
            · rw [hkn]; exact decide_eq_false (by omega)
            · exact h4 k (by omega) hkq
theorem chs_at {S : AT} {j t : Nat} (ht : t < (dqL S j).length) (ho : opn S j ((dqL S j).getD t 0) = true) (hno : ∀ i, i < t → opn S j ((dqL S j).getD i 0) = false) : chs S j = (dqL S j).getD t 0 + 1 := by
  have hq : dqo S j ((dqL S j).getD t 0) = true := by unfold dqo; rw [(rah_at ht).1, ho]; rfl
  rcases frL_spec S j (aN S) with ⟨_, h2⟩ | ⟨b, h1, h2, h3, h4⟩
  · rw [h2 _ (rah_at ht).2.1] at hq; cases hq
  · have q3 := h3
    unfold dqo at q3
    rw [Bool.and_eq_true] at q3
    obtain ⟨i, e1, e2⟩ := (due_rk S j).2.1 b h2 q3.1
    have hit : i = t := by
      rcases Nat.lt_trichotomy i t with h | h | h
      · have := hno i h
        rw [e2, q3.2] at this; cases this
      · exact h
      · have h5 := (due_rk S j).2.2.1 t i h e1
        rw [e2, h4 _ (rah_at ht).2.1 hq] at h5; cases h5
    unfold chs
    rw [h1, if_neg (by omega), ← e2, hit]
theorem chs_no {S : AT} {j : Nat} (hno : ∀ i, i < (dqL S j).length → opn S j ((dqL S j).getD i 0) = false) : chs S j = (bnL S j (aN S)).1 := by
  rcases frL_spec S j (aN S) with ⟨h1, _⟩ | ⟨b, h1, h2, h3, h4⟩
  · unfold chs; rw [h1, if_pos rfl]
  · unfold dqo at h3
    rw [Bool.and_eq_true] at h3
    obtain ⟨i, e1, e2⟩ := (due_rk S j).2.1 b h2 h3.1
    have := hno i e1
    rw [e2, h3.2] at this; cases this
theorem chV_y {S : AT} {j e : Nat} (h : chs S j = e + 1) : (if chs S j = 0 then ((2 : Nat), (0 : Int32)) else (0, nI (chs S j - 1))) = (0, nI e) := by rw [h, if_neg (by omega), Nat.add_sub_cancel]
theorem chV_n {S : AT} {j : Nat} (h : chs S j = 0) : (if chs S j = 0 then ((2 : Nat), (0 : Int32)) else (0, nI (chs S j - 1))) = (2, 0) := if_pos h

set_option maxHeartbeats 4000000 in
set_option maxRecDepth 100000 in
theorem c_X11_reviews (l : Launch) (G : mq_G) (A : Nat → Prop) (f : mq_F) (ad : AD) (S : AT) (X : CX) (S2 : AT) (Y : MX) (O : OX) (T : Nat) (ui : Int32) : Met l yX11_reviews wsX11_reviews ({ frames := 12, cells := 11, slots := 103, locals := 230 } : Room) (mq_Pc G A f (WR G f ad S X S2 Y O ∧ mOK S2 Y T) [.ref (ad 20 0 0), .int ui]) (mq_Qi G A (fun r g => ∃ c9, spRev S2 ui = (c9, r) ∧ WR G g ad S X S2 (yThr Y (nI c9)) O)) 11 103 A := by
  refine Met.ofW (cc := cX11_reviews) (maxL := 2) (ret := (some .int)) (by decide) rfl ?_
  intro p e s m args below meth c s₁ B hml hv
  obtain ⟨rfl, ⟨hK, hZ, hM, hA⟩, hp⟩ := hv
  have hx := B.exec
  have hb := B.bytes
  have hr := B.returns
  have hts := atoms_spec (ws := wsX11_reviews) B.pre
  have hown : s.vm.findClass RX11 = some m.cls := findClass_of_methodNamed B.named
  have hlocks := B.notSynchronized
  have hS : va_S A s.heap s.heap [] := va_S.rf
  have hl := lv_entry ([.ref (ad 20 0 0), .int ui]) (n := 2) (Nat.le_of_ble_eq_true rfl)
  rw [lg_entry_eq]
  generalize (lg_sl ([.ref (ad 20 0 0), .int ui]) ++ List.replicate (2 - (lg_sl ([.ref (ad 20 0 0), .int ui])).length) Slot.unset).toArray = ls at hl ⊢
  have hl : lv_has ls 2 [(0, .ref (ad 20 0 0)), (1, .int ui)] := hl
  have w0 := hts (.fieldLink RX11 19 "TutorlightModel" "thrown" "I") (List.mem_of_getElem? (i := 1) rfl)
  have nX11 : ∀ w ∈ wsX110, w ∈ wsX11_reviews := fun _ h => List.mem_cons_of_mem _ (List.mem_append_left _ (List.mem_append_left _ (List.mem_append_left _ (List.mem_append_left _ (List.mem_append_right _ h)))))
  obtain ⟨hR, hO⟩ := hp
  obtain ⟨⟨X9, ⟨hn, hl4, hd2, hT⟩, hsk, hma, hdc, hle, -⟩, ⟨hns, hnc⟩, ⟨hls, hlc⟩, hac, hmc⟩ := id hO
  have y20_226 := hR.1 _ _ _ _ (t20)
  refine lv_aload_n hx hb dX11_reviews_0 rfl (lv_at hl 0 rfl) ?_
  refine lv_iconst (v := 0) hx hb dX11_reviews_1 (by decide) ?_
  refine mq_put (ci := 16) (v := .int 0) (ty := .int) (C := RX11) (T := TX11) (N := 4) (fs' := [.int 0, .int (nI (aD S2)), .ref (ad 21 0 0), .ref (ad 23 0 0)]) hx hb hts nX11 tyX11 tyX11_ok nmX11 hown hK hM hS y20_226 rfl 0 (by decide) w0 (fun _ h9 => h9) rfl (by decide +kernel) rfl rfl (Nat.le_of_ble_eq_true rfl) dX11_reviews_2 rfl (fun f_1 H locs e_2 hM hS => ?_)
  have h_3 : f_1 (ad 20 0 0) = some (.inr (16, [.int 0, .int (nI (aD S2)), .ref (ad 21 0 0), .ref (ad 23 0 0)])) := mq_s e_2
  have hR1 := WR_yt hR e_2
  refine lv_aload_n hx hb dX11_reviews_5 rfl (lv_at hl 0 rfl) ?_
  have y23_225 := hR1.1 _ _ _ _ (t23)
  refine lv_aload_n hx hb dX11_reviews_6 rfl (lv_at hl 0 rfl) ?_
  refine lv_iload_n hx hb dX11_reviews_7 rfl (lv_at hl 1 rfl) ?_
  refine mq_calli (va_runV (As := [.int ui]) (rest := [.ref (ad 20 0 0)]) ⟨hx, hb, hml, hown, hts⟩ (c_X11_noLearner l G A f_1 (ad 20 0 0) (ad 23 0 0) ui 0 (nI (aD S2)) (ad 21 0 0) (lsD G (yL Y).2 (ad 24 0 0)) (aL S2) (yL Y).1) (cwV 1 hts gX11_reviews_X11_noLearner rfl rfl rfl (by decide +kernel) ⟨Nat.le_of_ble_eq_true rfl, Nat.le_of_ble_eq_true rfl⟩) (mq_preV hK hZ hS hA hM (q := (RX11, TX11, 4)) h_3 rfl (⟨h_3, y23_225, by omega⟩) _) rfl rfl hl.1 rfl (lv_room (Nat.le_of_ble_eq_true rfl)) dX11_reviews_8 ⟨Nat.le_of_ble_eq_true rfl, Nat.le_of_ble_eq_true rfl⟩) hS (fun r8 g8 H locs p8 hM hS => ?_)
  refine W.widen (k := 0) (n := 0) (Nat.le_of_ble_eq_true rfl) (Nat.le_of_ble_eq_true rfl) ?_
  obtain ⟨rfl, rfl⟩ := p8
  refine lv_iconst (v := 1) hx hb dX11_reviews_11 (by decide) ?_
  refine mq_calli (va_runV (As := [.int (zb (!vI ui (aL S2))), .int 1]) (rest := []) ⟨hx, hb, hml, hown, hts⟩ (c_X11_fails l G A f_1 (ad 20 0 0) (!vI ui (aL S2)) 1 0 (nI (aD S2)) (ad 21 0 0) (ad 23 0 0)) (cwV 2 hts gX11_reviews_X11_fails rfl rfl rfl (by decide +kernel) ⟨Nat.le_of_ble_eq_true rfl, Nat.le_of_ble_eq_true rfl⟩) (mq_preV hK hZ hS hA hM (q := (RX11, TX11, 4)) h_3 rfl (h_3) _) rfl rfl hl.1 rfl (lv_room (Nat.le_of_ble_eq_true rfl)) dX11_reviews_12 ⟨Nat.le_of_ble_eq_true rfl, Nat.le_of_ble_eq_true rfl⟩) hS (fun r12 g12 H locs p12 hM hS => ?_)
  refine W.widen (k := 0) (n := 0) (Nat.le_of_ble_eq_true rfl) (Nat.le_of_ble_eq_true rfl) ?_
  refine lv_if_eq (tgt := 22) hx hb dX11_reviews_15 (by decide) (fun c_15 => ?_) (fun c_15 => ?_)
  · obtain ⟨hv9, rfl⟩ := fl_y h_3 p12 (by decide) c_15
    obtain ⟨j, hj, rfl⟩ := vI_ex1 hv9
    refine lv_aload_n hx hb dX11_reviews_22 rfl (lv_at hl 0 rfl) ?_
    refine lv_iload_n hx hb dX11_reviews_23 rfl (lv_at hl 1 rfl) ?_
    refine mq_callq (va_runV (As := [.int (nI j)]) (rest := []) ⟨hx, hb, hml, hown, hts⟩ (c_X11_dueNow l G A f_1 ad S X S2 (yThr Y 0) O T j) (cwV 1 hts gX11_reviews_X11_dueNow rfl rfl rfl (by decide +kernel) ⟨Nat.le_of_ble_eq_true rfl, Nat.le_of_ble_eq_true rfl⟩) (mq_preV hK hZ hS hA hM (q := (RX11, TX11, 4)) h_3 rfl (⟨hR1, hO.thr 0, hj⟩) _) rfl rfl hl.1 rfl (lv_room (Nat.le_of_ble_eq_true rfl)) dX11_reviews_24 ⟨Nat.le_of_ble_eq_true rfl, Nat.le_of_ble_eq_true rfl⟩) hS (fun r24 g24 H locs p24 hM hS => ?_)
    refine W.widen (k := 11) (n := 103) (Nat.le_of_ble_eq_true rfl) (Nat.le_of_ble_eq_true rfl) ?_
    obtain ⟨x9, mo9, k9, d9, er, hd9⟩ := p24
    subst er
    have hlen := rkL_le (due_rk S2 j)
    have yx9 := hd9.1
    have hR9 := RR.mono hR1 hd9.2.2.2.2.2.2
    refine mq_calli (va_runV (As := []) (rest := []) ⟨hx, hb, hml, hown, hts⟩ (c_Jx4a65c_size_8abf5 l G A g24 x9 mo9 (lsD G k9 d9) (dqL S2 j).length) (cwV 0 hts gX11_reviews_Jx4a65c_size_8abf5 rfl rfl rfl (by decide +kernel) ⟨Nat.le_of_ble_eq_true rfl, Nat.le_of_ble_eq_true rfl⟩) (mq_preV hK hZ hS hA hM (q := (RJx4a65c, TJx4a65c, 3)) yx9 rfl (yx9) _) rfl rfl hl.1 rfl (lv_room (Nat.le_of_ble_eq_true rfl)) dX11_reviews_27 ⟨Nat.le_of_ble_eq_true rfl, Nat.le_of_ble_eq_true rfl⟩) hS (fun r27 g27 H locs p27 hM hS => ?_)
    refine W.widen (k := 11) (n := 103) (Nat.le_of_ble_eq_true rfl) (Nat.le_of_ble_eq_true rfl) ?_
    obtain ⟨rfl, rfl⟩ := p27
    exact mq_iret (v := nI (dqL S2 j).length) hx hb hr hlocks hM hS (⟨0, (spL_y hj hl4).trans (by show (0, nI (cntB (dueB S2 j) (aN S2))) = _; rw [← (due_rk S2 j).2.2.2]), hR9⟩) dX11_reviews_30
  · obtain ⟨hv9, hg⟩ := fl_n p12 c_15
    refine lv_iconst (v := 0) hx hb dX11_reviews_18 (by decide) ?_
    refine lv_goto (tgt := 30) hx hb dX11_reviews_19 (by decide) ?_
    refine W.widen (k := 11) (n := 103) (Nat.le_of_ble_eq_true rfl) (Nat.le_of_ble_eq_true rfl) ?_
    exact mq_iret (v := 0) hx hb hr hlocks hM hS (⟨1, spL_n (fun q => absurd (vI_iff.mpr q) (by rw [hv9]; decide)), by have q9 := WR_yt hR1 hg; exact q9⟩) dX11_reviews_30

set_option maxHeartbeats 4000000 in
set_option maxRecDepth 100000 in
theorem c_X11_reviewAt (l : Launch) (G : mq_G) (A : Nat → Prop) (f : mq_F) (ad : AD) (S : AT) (X : CX) (S2 : AT) (Y : MX) (O : OX) (T : Nat) (ui ix : Int32) : Met l yX11_reviewAt wsX11_reviewAt ({ frames := 12, cells := 11, slots := 103, locals := 230 } : Room) (mq_Pc G A f (WR G f ad S X S2 Y O ∧ mOK S2 Y T) [.ref (ad 20 0 0), .int ui, .int ix]) (mq_Qi G A (fun r g => ∃ c9, spRevAt S2 ui ix = (c9, r) ∧ WR G g ad S X S2 (yThr Y (nI c9)) O)) 11 103 A := by
  refine Met.ofW (cc := cX11_reviewAt) (maxL := 4) (ret := (some .int)) (by decide) rfl ?_
  intro p e s m args below meth c s₁ B hml hv
  obtain ⟨rfl, ⟨hK, hZ, hM, hA⟩, hp⟩ := hv
  have hx := B.exec
  have hb := B.bytes
  have hr := B.returns
  have hts := atoms_spec (ws := wsX11_reviewAt) B.pre
  have hown : s.vm.findClass RX11 = some m.cls := findClass_of_methodNamed B.named
  have hlocks := B.notSynchronized
  have hS : va_S A s.heap s.heap [] := va_S.rf
  have hl := lv_entry ([.ref (ad 20 0 0), .int ui, .int ix]) (n := 4) (Nat.le_of_ble_eq_true rfl)
  rw [lg_entry_eq]
  generalize (lg_sl ([.ref (ad 20 0 0), .int ui, .int ix]) ++ List.replicate (4 - (lg_sl ([.ref (ad 20 0 0), .int ui, .int ix])).length) Slot.unset).toArray = ls at hl ⊢
  have hl : lv_has ls 4 [(0, .ref (ad 20 0 0)), (1, .int ui), (2, .int ix)] := hl
  have w0 := hts (.fieldLink RX11 19 "TutorlightModel" "thrown" "I") (List.mem_of_getElem? (i := 1) rfl)
  have w1 := hts (.classLink RX11 152 "java/lang/Integer") (List.mem_of_getElem? (i := 2) rfl)
  have nX11 : ∀ w ∈ wsX110, w ∈ wsX11_reviewAt := fun _ h => List.mem_cons_of_mem _ (List.mem_append_left _ (List.mem_append_left _ (List.mem_append_left _ (List.mem_append_left _ (List.mem_append_right _ h)))))
  obtain ⟨hR, hO⟩ := hp
  obtain ⟨⟨X9, ⟨hn, hl4, hd2, hT⟩, hsk, hma, hdc, hle, -⟩, ⟨hns, hnc⟩, ⟨hls, hlc⟩, hac, hmc⟩ := id hO
  have y20_229 := hR.1 _ _ _ _ (t20)
  refine lv_aload_n hx hb dX11_reviewAt_0 rfl (lv_at hl 0 rfl) ?_
  refine lv_iconst (v := 0) hx hb dX11_reviewAt_1 (by decide) ?_
  refine mq_put (ci := 16) (v := .int 0) (ty := .int) (C := RX11) (T := TX11) (N := 4) (fs' := [.int 0, .int (nI (aD S2)), .ref (ad 21 0 0), .ref (ad 23 0 0)]) hx hb hts nX11 tyX11 tyX11_ok nmX11 hown hK hM hS y20_229 rfl 0 (by decide) w0 (fun _ h9 => h9) rfl (by decide +kernel) rfl rfl (Nat.le_of_ble_eq_true rfl) dX11_reviewAt_2 rfl (fun f_1 H locs e_2 hM hS => ?_)
  have h_3 : f_1 (ad 20 0 0) = some (.inr (16, [.int 0, .int (nI (aD S2)), .ref (ad 21 0 0), .ref (ad 23 0 0)])) := mq_s e_2
  have hR1 := WR_yt hR e_2
  refine lv_aload_n hx hb dX11_reviewAt_5 rfl (lv_at hl 0 rfl) ?_
  have y23_227 := hR1.1 _ _ _ _ (t23)
  refine lv_aload_n hx hb dX11_reviewAt_6 rfl (lv_at hl 0 rfl) ?_
  refine lv_iload_n hx hb dX11_reviewAt_7 rfl (lv_at hl 1 rfl) ?_
  refine mq_calli (va_runV (As := [.int ui]) (rest := [.ref (ad 20 0 0)]) ⟨hx, hb, hml, hown, hts⟩ (c_X11_noLearner l G A f_1 (ad 20 0 0) (ad 23 0 0) ui 0 (nI (aD S2)) (ad 21 0 0) (lsD G (yL Y).2 (ad 24 0 0)) (aL S2) (yL Y).1) (cwV 1 hts gX11_reviewAt_X11_noLearner rfl rfl rfl (by decide +kernel) ⟨Nat.le_of_ble_eq_true rfl, Nat.le_of_ble_eq_true rfl⟩) (mq_preV hK hZ hS hA hM (q := (RX11, TX11, 4)) h_3 rfl (⟨h_3, y23_227, by omega⟩) _) rfl rfl hl.1 rfl (lv_room (Nat.le_of_ble_eq_true rfl)) dX11_reviewAt_8 ⟨Nat.le_of_ble_eq_true rfl, Nat.le_of_ble_eq_true rfl⟩) hS (fun r8 g8 H locs p8 hM hS => ?_)
  refine W.widen (k := 0) (n := 0) (Nat.le_of_ble_eq_true rfl) (Nat.le_of_ble_eq_true rfl) ?_
  obtain ⟨rfl, rfl⟩ := p8
  refine lv_iconst (v := 1) hx hb dX11_reviewAt_11 (by decide) ?_
  refine mq_calli (va_runV (As := [.int (zb (!vI ui (aL S2))), .int 1]) (rest := []) ⟨hx, hb, hml, hown, hts⟩ (c_X11_fails l G A f_1 (ad 20 0 0) (!vI ui (aL S2)) 1 0 (nI (aD S2)) (ad 21 0 0) (ad 23 0 0)) (cwV 2 hts gX11_reviewAt_X11_fails rfl rfl rfl (by decide +kernel) ⟨Nat.le_of_ble_eq_true rfl, Nat.le_of_ble_eq_true rfl⟩) (mq_preV hK hZ hS hA hM (q := (RX11, TX11, 4)) h_3 rfl (h_3) _) rfl rfl hl.1 rfl (lv_room (Nat.le_of_ble_eq_true rfl)) dX11_reviewAt_12 ⟨Nat.le_of_ble_eq_true rfl, Nat.le_of_ble_eq_true rfl⟩) hS (fun r12 g12 H locs p12 hM hS => ?_)
  refine W.widen (k := 0) (n := 0) (Nat.le_of_ble_eq_true rfl) (Nat.le_of_ble_eq_true rfl) ?_
  refine lv_if_eq (tgt := 20) hx hb dX11_reviewAt_15 (by decide) (fun c_15 => ?_) (fun c_15 => ?_)
  · obtain ⟨hv9, rfl⟩ := fl_y h_3 p12 (by decide) c_15
    obtain ⟨j, hj, rfl⟩ := vI_ex1 hv9
    refine lv_aload_n hx hb dX11_reviewAt_20 rfl (lv_at hl 0 rfl) ?_
    refine lv_iload_n hx hb dX11_reviewAt_21 rfl (lv_at hl 1 rfl) ?_
    refine mq_callq (va_runV (As := [.int (nI j)]) (rest := []) ⟨hx, hb, hml, hown, hts⟩ (c_X11_dueNow l G A f_1 ad S X S2 (yThr Y 0) O T j) (cwV 1 hts gX11_reviewAt_X11_dueNow rfl rfl rfl (by decide +kernel) ⟨Nat.le_of_ble_eq_true rfl, Nat.le_of_ble_eq_true rfl⟩) (mq_preV hK hZ hS hA hM (q := (RX11, TX11, 4)) h_3 rfl (⟨hR1, hO.thr 0, hj⟩) _) rfl rfl hl.1 rfl (lv_room (Nat.le_of_ble_eq_true rfl)) dX11_reviewAt_22 ⟨Nat.le_of_ble_eq_true rfl, Nat.le_of_ble_eq_true rfl⟩) hS (fun r22 g22 H locs p22 hM hS => ?_)
    refine W.widen (k := 11) (n := 103) (Nat.le_of_ble_eq_true rfl) (Nat.le_of_ble_eq_true rfl) ?_
    obtain ⟨x9, mo9, k9, d9, er, hd9⟩ := p22
    subst er
    have hlen := rkL_le (due_rk S2 j)
    have yx9 := hd9.1
    have hR9 := RR.mono hR1 hd9.2.2.2.2.2.2
    refine lv_astore_n (lv' := [(3, .ref x9), (0, .ref (ad 20 0 0)), (1, .int (nI j)), (2, .int ix)]) hx hb dX11_reviewAt_25 rfl hl (by decide) rfl (fun ls hl => ?_)
    have y20_228 := hR9.1 _ _ _ _ (t20)
    refine lv_aload_n hx hb dX11_reviewAt_26 rfl (lv_at hl 1 rfl) ?_
    refine lv_iload_n hx hb dX11_reviewAt_27 rfl (lv_at hl 3 rfl) ?_
    refine lv_iconst (v := 0) hx hb dX11_reviewAt_28 (by decide) ?_
    refine lv_aload_n hx hb dX11_reviewAt_29 rfl (lv_at hl 0 rfl) ?_
    refine mq_calli (va_runV (As := []) (rest := [.int 0, .int ix, .ref (ad 20 0 0)]) ⟨hx, hb, hml, hown, hts⟩ (c_Jx4a65c_size_8abf5 l G A g22 x9 mo9 (lsD G k9 d9) (dqL S2 j).length) (cwV 0 hts gX11_reviewAt_Jx4a65c_size_8abf5 rfl rfl rfl (by decide +kernel) ⟨Nat.le_of_ble_eq_true rfl, Nat.le_of_ble_eq_true rfl⟩) (mq_preV hK hZ hS hA hM (q := (RJx4a65c, TJx4a65c, 3)) yx9 rfl (yx9) _) rfl rfl hl.1 rfl (lv_room (Nat.le_of_ble_eq_true rfl)) dX11_reviewAt_30 ⟨Nat.le_of_ble_eq_true rfl, Nat.le_of_ble_eq_true rfl⟩) hS (fun r30 g30 H locs p30 hM hS => ?_)
    refine W.widen (k := 11) (n := 103) (Nat.le_of_ble_eq_true rfl) (Nat.le_of_ble_eq_true rfl) ?_
    obtain ⟨rfl, rfl⟩ := p30
    refine lv_iconst (v := 1) hx hb dX11_reviewAt_33 (by decide) ?_
    refine lv_isub hx hb dX11_reviewAt_34 ?_
    rw [show (nI (dqL S2 j).length) - 1 = nI (dqL S2 j).length - 1 from rfl]
    refine mq_calli (va_runS (As := [.int ix, .int 0, .int (nI (dqL S2 j).length - 1)]) (rest := [.ref (ad 20 0 0)]) ⟨hx, hb, hml, hown, hts⟩ (c_X11_in l G A g22 ix 0 (nI (dqL S2 j).length - 1)) (va_cwS 3 hts gX11_reviewAt_X11_in rfl rfl rfl (by decide +kernel) ⟨Nat.le_of_ble_eq_true rfl, Nat.le_of_ble_eq_true rfl⟩) (mq_preS hK hZ hS hA hM (trivial) _) rfl rfl hl.1 rfl (lv_room (Nat.le_of_ble_eq_true rfl)) dX11_reviewAt_35 ⟨Nat.le_of_ble_eq_true rfl, Nat.le_of_ble_eq_true rfl⟩) hS (fun r35 g35 H locs p35 hM hS => ?_)
    refine W.widen (k := 11) (n := 103) (Nat.le_of_ble_eq_true rfl) (Nat.le_of_ble_eq_true rfl) ?_
    obtain ⟨rfl, rfl⟩ := p35
    rw [inB_vI (by omega)]
    refine lv_if_ne (tgt := 45) hx hb dX11_reviewAt_38 (by decide) (fun c_38 => ?_) (fun c_38 => ?_)
    · replace c_38 : ¬ zb (vI ix (dqL S2 j).length) = 0 := c_38
      rw [zb_n0] at c_38
      obtain ⟨t, ht, rfl⟩ := vI_ex1 c_38
      refine lv_iconst (v := 0) hx hb dX11_reviewAt_45 (by decide) ?_
      refine lv_iconst (v := 2) hx hb dX11_reviewAt_46 (by decide) ?_
      refine mq_calli (va_runV (As := [.int 0, .int 2]) (rest := []) ⟨hx, hb, hml, hown, hts⟩ (c_X11_fails l G A g22 (ad 20 0 0) false 2 0 (nI (aD S2)) (ad 21 0 0) (ad 23 0 0)) (cwV 2 hts gX11_reviewAt_X11_fails rfl rfl rfl (by decide +kernel) ⟨Nat.le_of_ble_eq_true rfl, Nat.le_of_ble_eq_true rfl⟩) (mq_preV hK hZ hS hA hM (q := (RX11, TX11, 4)) y20_228 rfl (y20_228) _) rfl rfl hl.1 rfl (lv_room (Nat.le_of_ble_eq_true rfl)) dX11_reviewAt_47 ⟨Nat.le_of_ble_eq_true rfl, Nat.le_of_ble_eq_true rfl⟩) hS (fun r47 g47 H locs p47 hM hS => ?_)
      refine W.widen (k := 11) (n := 103) (Nat.le_of_ble_eq_true rfl) (Nat.le_of_ble_eq_true rfl) ?_
      obtain ⟨hg, hr9⟩ := p47
      obtain rfl := fl_0 y20_228 hg
      rw [hr9, show zb (decide (fT false 0 2 ≠ 0)) = 0 from by decide]
      refine lv_if_eq (tgt := 57) hx hb dX11_reviewAt_50 (by decide) (fun c_50 => ?_) (fun c_50 => absurd c_50 (by decide))
      have hk9 : k9 ≠ 0 := by have := hd9.2.2.2.2.2.1; omega
      have yx8 := hd9.1
      rw [lsD_1 hk9] at yx8
      have yd8 := hd9.2.1 hk9
      have he9 := (rah_at ht).2.1
      refine lv_aload_n hx hb dX11_reviewAt_57 rfl (lv_at hl 0 rfl) ?_
      refine lv_iload_n hx hb dX11_reviewAt_58 rfl (lv_at hl 3 rfl) ?_
      refine mq_callq (va_runV (As := [.int (nI t)]) (rest := []) ⟨hx, hb, hml, hown, hts⟩ (c_Jx4a65c_get_915e3 l G A g22 x9 mo9 d9 k9 (dqL S2 j).length t (fun i => sI G ((dqL S2 j).getD i 0 + 128))) (cwV 1 hts gX11_reviewAt_Jx4a65c_get_915e3 rfl rfl rfl (by decide +kernel) ⟨Nat.le_of_ble_eq_true rfl, Nat.le_of_ble_eq_true rfl⟩) (mq_preV hK hZ hS hA hM (q := (RJx4a65c, TJx4a65c, 3)) yx8 rfl (⟨yx8, yd8, ht, hd9.2.2.2.2.2.1, by have := hd9.2.2.2.2.1; omega⟩) _) rfl rfl hl.1 rfl (lv_room (Nat.le_of_ble_eq_true rfl)) dX11_reviewAt_59 ⟨Nat.le_of_ble_eq_true rfl, Nat.le_of_ble_eq_true rfl⟩) hS (fun r59 g59 H locs p59 hM hS => ?_)
      refine W.widen (k := 11) (n := 103) (Nat.le_of_ble_eq_true rfl) (Nat.le_of_ble_eq_true rfl) ?_
      obtain ⟨rfl, rfl⟩ := p59
      refine mq_castG hx hb hown w1 (mq_recN hZ hS (k := (dqL S2 j).getD t 0 + 128) (by omega)) dX11_reviewAt_62 ?_
      refine mq_calli (va_runV (As := []) (rest := []) ⟨hx, hb, hml, hown, hts⟩ (c_J6_intValue_8abf5 l G A g22 ((dqL S2 j).getD t 0)) (cwV 0 hts gX11_reviewAt_J6_intValue_8abf5 rfl rfl rfl (by decide +kernel) ⟨Nat.le_of_ble_eq_true rfl, Nat.le_of_ble_eq_true rfl⟩) (mq_preVO hK hZ hS hA hM (mq_recN hZ hS (k := (dqL S2 j).getD t 0 + 128) (by omega)) (by omega) _) rfl rfl hl.1 rfl (lv_room (Nat.le_of_ble_eq_true rfl)) dX11_reviewAt_65 ⟨Nat.le_of_ble_eq_true rfl, Nat.le_of_ble_eq_true rfl⟩) hS (fun r65 g65 H locs p65 hM hS => ?_)
      refine W.widen (k := 11) (n := 103) (Nat.le_of_ble_eq_true rfl) (Nat.le_of_ble_eq_true rfl) ?_
      obtain ⟨rfl, rfl⟩ := p65
      exact mq_iret (v := nI ((dqL S2 j).getD t 0)) hx hb hr hlocks hM hS (⟨0, (spL_y hj hl4).trans (rvV_y hn ht), hR9⟩) dX11_reviewAt_68
    · replace c_38 : zb (vI ix (dqL S2 j).length) = 0 := c_38
      rw [zb_0] at c_38
      refine lv_iconst (v := 1) hx hb dX11_reviewAt_41 (by decide) ?_
      refine lv_goto (tgt := 46) hx hb dX11_reviewAt_42 (by decide) ?_
      refine lv_iconst (v := 2) hx hb dX11_reviewAt_46 (by decide) ?_
      refine mq_calli (va_runV (As := [.int 1, .int 2]) (rest := []) ⟨hx, hb, hml, hown, hts⟩ (c_X11_fails l G A g22 (ad 20 0 0) true 2 0 (nI (aD S2)) (ad 21 0 0) (ad 23 0 0)) (cwV 2 hts gX11_reviewAt_X11_fails rfl rfl rfl (by decide +kernel) ⟨Nat.le_of_ble_eq_true rfl, Nat.le_of_ble_eq_true rfl⟩) (mq_preV hK hZ hS hA hM (q := (RX11, TX11, 4)) y20_228 rfl (y20_228) _) rfl rfl hl.1 rfl (lv_room (Nat.le_of_ble_eq_true rfl)) dX11_reviewAt_47 ⟨Nat.le_of_ble_eq_true rfl, Nat.le_of_ble_eq_true rfl⟩) hS (fun r47 g47 H locs p47 hM hS => ?_)
      refine W.widen (k := 11) (n := 103) (Nat.le_of_ble_eq_true rfl) (Nat.le_of_ble_eq_true rfl) ?_
      obtain ⟨hg, hr9⟩ := p47
      rw [hr9, show zb (decide (fT true 0 2 ≠ 0)) = 1 from by decide]
      refine lv_if_eq (tgt := 57) hx hb dX11_reviewAt_50 (by decide) (fun c_50 => absurd c_50 (by decide)) (fun c_50 => ?_)
      refine lv_iconst (v := 0) hx hb dX11_reviewAt_53 (by decide) ?_
      refine lv_goto (tgt := 68) hx hb dX11_reviewAt_54 (by decide) ?_
      exact mq_iret (v := 0) hx hb hr hlocks hM hS (⟨2, (spL_y hj hl4).trans (rvV_n hn c_38), by have q9 := WR_yt hR9 hg; exact q9⟩) dX11_reviewAt_68
  · obtain ⟨hv9, hg⟩ := fl_n p12 c_15
    refine lv_iconst (v := 0) hx hb dX11_reviewAt_18 (by decide) ?_
    refine W.widen (k := 11) (n := 103) (Nat.le_of_ble_eq_true rfl) (Nat.le_of_ble_eq_true rfl) ?_
    exact mq_iret (v := 0) hx hb hr hlocks hM hS (⟨1, spL_n (fun q => absurd (vI_iff.mpr q) (by rw [hv9]; decide)), by have q9 := WR_yt hR1 hg; exact q9⟩) dX11_reviewAt_19

set_option maxHeartbeats 4000000 in
set_option maxRecDepth 100000 in
theorem c_X11_choose (l : Launch) (G : mq_G) (A : Nat → Prop) (f : mq_F) (ad : AD) (S : AT) (X : CX) (S2 : AT) (Y : MX) (O : OX) (T : Nat) (ui : Int32) : Met l yX11_choose wsX11_choose ({ frames := 12, cells := 12, slots := 107, locals := 230 } : Room) (mq_Pc G A f (WR G f ad S X S2 Y O ∧ mOK S2 Y T) [.ref (ad 20 0 0), .int ui]) (mq_Qi G A (fun r g => ∃ c9, spChs S2 ui = (c9, r) ∧ WR G g ad S X S2 (yThr Y (nI c9)) O)) 12 107 A := by
  refine Met.ofW (cc := cX11_choose) (maxL := 6) (ret := (some .int)) (by decide) rfl ?_
  intro p e s m args below meth c s₁ B hml hv
  obtain ⟨rfl, ⟨hK, hZ, hM, hA⟩, hp⟩ := hv
  have hx := B.exec
  have hb := B.bytes
  have hr := B.returns
  have hts := atoms_spec (ws := wsX11_choose) B.pre
  have hown : s.vm.findClass RX11 = some m.cls := findClass_of_methodNamed B.named
  have hlocks := B.notSynchronized
  have hS : va_S A s.heap s.heap [] := va_S.rf
  have hl := lv_entry ([.ref (ad 20 0 0), .int ui]) (n := 6) (Nat.le_of_ble_eq_true rfl)
  rw [lg_entry_eq]
  generalize (lg_sl ([.ref (ad 20 0 0), .int ui]) ++ List.replicate (6 - (lg_sl ([.ref (ad 20 0 0), .int ui])).length) Slot.unset).toArray = ls at hl ⊢
  have hl : lv_has ls 6 [(0, .ref (ad 20 0 0)), (1, .int ui)] := hl
  have w0 := hts (.fieldLink RX11 19 "TutorlightModel" "thrown" "I") (List.mem_of_getElem? (i := 1) rfl)
  have w1 := hts (.fieldLink RX11 10 "TutorlightModel" "skills" "Ljava/util/ArrayList;") (List.mem_of_getElem? (i := 3) rfl)
  have w2 := hts (.fieldLink RX11 81 "TutorlightModel$Known" "odds" "I") (List.mem_of_getElem? (i := 4) rfl)
  have w3 := hts (.classLink RX11 52 "TutorlightModel$Skill") (List.mem_of_getElem? (i := 5) rfl)
  have w4 := hts (.fieldLink RX11 61 "TutorlightModel$Skill" "gain" "I") (List.mem_of_getElem? (i := 6) rfl)
  have w5 := hts (.fieldLink RX11 107 "TutorlightModel$Known" "due" "I") (List.mem_of_getElem? (i := 7) rfl)
  have w6 := hts (.classLink RX11 152 "java/lang/Integer") (List.mem_of_getElem? (i := 2) rfl)
  have nX11 : ∀ w ∈ wsX110, w ∈ wsX11_choose := fun _ h => List.mem_cons_of_mem _ (List.mem_append_left _ (List.mem_append_left _ (List.mem_append_left _ (List.mem_append_left _ (List.mem_append_left _ (List.mem_append_left _ (List.mem_append_left _ (List.mem_append_right _ h))))))))
  have nX8 : ∀ w ∈ wsX80, w ∈ wsX11_choose := fun _ h => List.mem_cons_of_mem _ (List.mem_append_left _ (List.mem_append_left _ (List.mem_append_left _ (List.mem_append_left _ (List.mem_append_left _ (List.mem_append_left _ (List.mem_append_right _ h)))))))
  have nX10 : ∀ w ∈ wsX100, w ∈ wsX11_choose := fun _ h => List.mem_cons_of_mem _ (List.mem_append_left _ (List.mem_append_left _ (List.mem_append_left _ (List.mem_append_left _ (List.mem_append_left _ (List.mem_append_right _ h))))))
  obtain ⟨hR, hO⟩ := hp
  obtain ⟨⟨X9, ⟨hn, hl4, hd2, hT⟩, hsk, hma, hdc, hle, -⟩, ⟨hns, hnc⟩, ⟨hls, hlc⟩, hac, hmc⟩ := id hO
  have y20_237 := hR.1 _ _ _ _ (t20)
  refine lv_aload_n hx hb dX11_choose_0 rfl (lv_at hl 0 rfl) ?_
  refine lv_iconst (v := 0) hx hb dX11_choose_1 (by decide) ?_
  refine mq_put (ci := 16) (v := .int 0) (ty := .int) (C := RX11) (T := TX11) (N := 4) (fs' := [.int 0, .int (nI (aD S2)), .ref (ad 21 0 0), .ref (ad 23 0 0)]) hx hb hts nX11 tyX11 tyX11_ok nmX11 hown hK hM hS y20_237 rfl 0 (by decide) w0 (fun _ h9 => h9) rfl (by decide +kernel) rfl rfl (Nat.le_of_ble_eq_true rfl) dX11_choose_2 rfl (fun f_1 H locs e_2 hM hS => ?_)
  have h_3 : f_1 (ad 20 0 0) = some (.inr (16, [.int 0, .int (nI (aD S2)), .ref (ad 21 0 0), .ref (ad 23 0 0)])) := mq_s e_2
  have hR1 := WR_yt hR e_2
  refine lv_aload_n hx hb dX11_choose_5 rfl (lv_at hl 0 rfl) ?_
  have y23_230 := hR1.1 _ _ _ _ (t23)
  refine lv_aload_n hx hb dX11_choose_6 rfl (lv_at hl 0 rfl) ?_
  refine lv_iload_n hx hb dX11_choose_7 rfl (lv_at hl 1 rfl) ?_
  refine mq_calli (va_runV (As := [.int ui]) (rest := [.ref (ad 20 0 0)]) ⟨hx, hb, hml, hown, hts⟩ (c_X11_noLearner l G A f_1 (ad 20 0 0) (ad 23 0 0) ui 0 (nI (aD S2)) (ad 21 0 0) (lsD G (yL Y).2 (ad 24 0 0)) (aL S2) (yL Y).1) (cwV 1 hts gX11_choose_X11_noLearner rfl rfl rfl (by decide +kernel) ⟨Nat.le_of_ble_eq_true rfl, Nat.le_of_ble_eq_true rfl⟩) (mq_preV hK hZ hS hA hM (q := (RX11, TX11, 4)) h_3 rfl (⟨h_3, y23_230, by omega⟩) _) rfl rfl hl.1 rfl (lv_room (Nat.le_of_ble_eq_true rfl)) dX11_choose_8 ⟨Nat.le_of_ble_eq_true rfl, Nat.le_of_ble_eq_true rfl⟩) hS (fun r8 g8 H locs p8 hM hS => ?_)
  refine W.widen (k := 0) (n := 0) (Nat.le_of_ble_eq_true rfl) (Nat.le_of_ble_eq_true rfl) ?_
  obtain ⟨rfl, rfl⟩ := p8
  refine lv_iconst (v := 1) hx hb dX11_choose_11 (by decide) ?_
  refine mq_calli (va_runV (As := [.int (zb (!vI ui (aL S2))), .int 1]) (rest := []) ⟨hx, hb, hml, hown, hts⟩ (c_X11_fails l G A f_1 (ad 20 0 0) (!vI ui (aL S2)) 1 0 (nI (aD S2)) (ad 21 0 0) (ad 23 0 0)) (cwV 2 hts gX11_choose_X11_fails rfl rfl rfl (by decide +kernel) ⟨Nat.le_of_ble_eq_true rfl, Nat.le_of_ble_eq_true rfl⟩) (mq_preV hK hZ hS hA hM (q := (RX11, TX11, 4)) h_3 rfl (h_3) _) rfl rfl hl.1 rfl (lv_room (Nat.le_of_ble_eq_true rfl)) dX11_choose_12 ⟨Nat.le_of_ble_eq_true rfl, Nat.le_of_ble_eq_true rfl⟩) hS (fun r12 g12 H locs p12 hM hS => ?_)
  refine W.widen (k := 0) (n := 0) (Nat.le_of_ble_eq_true rfl) (Nat.le_of_ble_eq_true rfl) ?_
  refine lv_if_eq (tgt := 20) hx hb dX11_choose_15 (by decide) (fun c_15 => ?_) (fun c_15 => ?_)
  · obtain ⟨hv9, rfl⟩ := fl_y h_3 p12 (by decide) c_15
    obtain ⟨j, hj, rfl⟩ := vI_ex1 hv9
    refine lv_aload_n hx hb dX11_choose_20 rfl (lv_at hl 0 rfl) ?_
    refine lv_iload_n hx hb dX11_choose_21 rfl (lv_at hl 1 rfl) ?_
    refine mq_callq (va_runV (As := [.int (nI j)]) (rest := []) ⟨hx, hb, hml, hown, hts⟩ (c_X11_dueNow l G A f_1 ad S X S2 (yThr Y 0) O T j) (cwV 1 hts gX11_choose_X11_dueNow rfl rfl rfl (by decide +kernel) ⟨Nat.le_of_ble_eq_true rfl, Nat.le_of_ble_eq_true rfl⟩) (mq_preV hK hZ hS hA hM (q := (RX11, TX11, 4)) h_3 rfl (⟨hR1, hO.thr 0, hj⟩) _) rfl rfl hl.1 rfl (lv_room (Nat.le_of_ble_eq_true rfl)) dX11_choose_22 ⟨Nat.le_of_ble_eq_true rfl, Nat.le_of_ble_eq_true rfl⟩) hS (fun r22 g22 H locs p22 hM hS => ?_)
    refine W.widen (k := 11) (n := 103) (Nat.le_of_ble_eq_true rfl) (Nat.le_of_ble_eq_true rfl) ?_
    obtain ⟨x9, mo9, k9, d9, er, hd9⟩ := p22
    subst er
    have hlen := rkL_le (due_rk S2 j)
    have yx9 := hd9.1
    have hR9 := RR.mono hR1 hd9.2.2.2.2.2.2
    refine mq_callq (va_runV (As := []) (rest := []) ⟨hx, hb, hml, hown, hts⟩ (c_Jx4a65c_iterator_32c93 l G A g22 x9 mo9 (lsD G k9 d9) (dqL S2 j).length) (cwV 0 hts gX11_choose_Jx4a65c_iterator_32c93 rfl rfl rfl (by decide +kernel) ⟨Nat.le_of_ble_eq_true rfl, Nat.le_of_ble_eq_true rfl⟩) (mq_preV hK hZ hS hA hM (q := (RJx4a65c, TJx4a65c, 3)) yx9 rfl (yx9) _) rfl rfl hl.1 rfl (lv_room (Nat.le_of_ble_eq_true rfl)) dX11_choose_25 ⟨Nat.le_of_ble_eq_true rfl, Nat.le_of_ble_eq_true rfl⟩) hS (fun r25 g25 H locs p25 hM hS => ?_)
    refine W.widen (k := 12) (n := 107) (Nat.le_of_ble_eq_true rfl) (Nat.le_of_ble_eq_true rfl) ?_
    obtain ⟨q25, er, hq25, hg25⟩ := p25
    subst er
    have h_4 : g25 x9 = some (.inr (4, [.int mo9, .ref (lsD G k9 d9), .int (nI (dqL S2 j).length)])) := mq_n hg25 yx9 (mq_neN yx9 hq25)
    have h_5 : g25 q25 = some (.inr (3, [.int 0, .int (-1), .int mo9, .ref x9])) := mq_s hg25
    refine lv_astore_n (lv' := [(2, .ref q25), (0, .ref (ad 20 0 0)), (1, .int (nI j))]) hx hb dX11_choose_28 rfl hl (by decide) rfl (fun ls hl => ?_)
    have K29 : ∀ (n9 : Nat) (t : Nat) (lr9 : Int32), ((dqL S2 j).length - t) < n9 → (t ≤ (dqL S2 j).length) → (∀ i, i < t → opn S2 j ((dqL S2 j).getD i 0) = false) → ∀ (f9 : mq_F), f9 q25 = some (.inr (3, [.int (nI t), .int lr9, .int mo9, .ref x9])) → (∀ y e, g22 y = some e → f9 y = some e) → ∀ (H : Heap) (locs : List Loc), mq_W G.1 A f9 H → va_S A s.heap H locs → ∀ (ls : Array Slot), lv_has ls 6 [(0, .ref (ad 20 0 0)), (1, .int (nI j)), (2, .ref q25)] → W p l e (headSpec wsX11_choose ({ frames := 12, cells := 12, slots := 107, locals := 230 } : Room)).room s m ([.ref (ad 20 0 0), .int (nI j)] : List Value).toArray below meth c H locs 12 107 (MQ below (mq_Qi G A (fun r g => ∃ c9, spChs S2 (nI j) = (c9, r) ∧ WR G g ad S X S2 (yThr Y (nI c9)) O)) ([.ref (ad 20 0 0), .int (nI j)] : List Value).toArray s 12 107 A) (F0 m 29 ls []) := by
      intro n9
      induction n9 with
      | zero => intro t lr9 hn9; exact absurd hn9 (Nat.not_lt_zero _)
      | succ n9 ih29 =>
        intro t lr9 hn9 ht hno f9 hq9 hk9 H locs hM hS ls hl
        have hR8 := RR.mono hR9 hk9
        have y20_235 := hR8.1 _ _ _ _ (t20)
        have y21_236 := hR8.1 _ _ _ _ (t21)
        have yx8 := hk9 _ _ hd9.1
        refine lv_aload_n hx hb dX11_choose_29 rfl (lv_at hl 2 rfl) ?_
        refine mq_callFi (va_runF (hK.1 3 _ rfl).2 (As := []) (rest := []) ⟨hx, hb, hml, hown, hts⟩ (c_Jx35411_hasNext_aae02 l G A f9 q25 x9 t lr9 mo9 (lsD G k9 d9) (dqL S2 j).length) (va_cwF 0 hts gX11_choose_Jx35411_hasNext_aae02_f138Jx35411 rfl rfl rfl (mq_itf hZ (by decide)) ⟨by decide, by decide, by decide +kernel⟩ ⟨Nat.le_of_ble_eq_true rfl, Nat.le_of_ble_eq_true rfl⟩) (mq_preV hK hZ hS hA hM (q := (RJx35411, TJx35411, 4)) hq9 rfl (⟨hq9, yx8, by omega, by omega⟩) _) rfl rfl hl.1 rfl (lv_room (Nat.le_of_ble_eq_true rfl)) dX11_choose_30 ⟨Nat.le_of_ble_eq_true rfl, Nat.le_of_ble_eq_true rfl⟩) hS (fun r30 g30 H locs p30 hM hS => ?_)
        refine W.widen (k := 12) (n := 107) (Nat.le_of_ble_eq_true rfl) (Nat.le_of_ble_eq_true rfl) ?_
        obtain ⟨rfl, rfl⟩ := p30
        refine lv_if_eq (tgt := 65) hx hb dX11_choose_35 (by decide) (fun c_35 => ?_) (fun c_35 => ?_)
        · replace c_35 : zb (decide (t ≠ (dqL S2 j).length)) = 0 := c_35
          rw [zb_0] at c_35
          have hi2 : t = (dqL S2 j).length := by simpa using c_35
          refine lv_iconst (v := (-1)) hx hb dX11_choose_65 (by decide) ?_
          refine lv_istore_n (lv' := [(2, .int (-1)), (0, .ref (ad 20 0 0)), (1, .int (nI j))]) hx hb dX11_choose_66 rfl hl (by decide) rfl (fun ls hl => ?_)
          refine lv_iconst (v := (-1)) hx hb dX11_choose_67 (by decide) ?_
          refine lv_istore_n (lv' := [(3, .int (-1)), (2, .int (-1)), (0, .ref (ad 20 0 0)), (1, .int (nI j))]) hx hb dX11_choose_68 rfl hl (by decide) rfl (fun ls hl => ?_)
          refine lv_iconst (v := 0) hx hb dX11_choose_69 (by decide) ?_
          refine lv_istore (lv' := [(4, .int 0), (3, .int (-1)), (2, .int (-1)), (0, .ref (ad 20 0 0)), (1, .int (nI j))]) hx hb dX11_choose_70 hl (by decide) rfl (fun ls hl => ?_)
          have K72 : ∀ (n9 : Nat) (i b q : Nat), (aN S2 - i) < n9 → (i ≤ aN S2) → ((b, q) = bnL S2 j i) → (b ≤ i) → (q ≤ 500001) → ∀ (H : Heap) (locs : List Loc), mq_W G.1 A f9 H → va_S A s.heap H locs → ∀ (ls : Array Slot), lv_has ls 6 [(0, .ref (ad 20 0 0)), (1, .int (nI j)), (2, .int (du b)), (3, .int (du q)), (4, .int (nI i))] → W p l e (headSpec wsX11_choose ({ frames := 12, cells := 12, slots := 107, locals := 230 } : Room)).room s m ([.ref (ad 20 0 0), .int (nI j)] : List Value).toArray below meth c H locs 12 107 (MQ below (mq_Qi G A (fun r g => ∃ c9, spChs S2 (nI j) = (c9, r) ∧ WR G g ad S X S2 (yThr Y (nI c9)) O)) ([.ref (ad 20 0 0), .int (nI j)] : List Value).toArray s 12 107 A) (F0 m 72 ls []) := by
            intro n9
            induction n9 with
            | zero => intro i b q hn9; exact absurd hn9 (Nat.not_lt_zero _)
            | succ n9 ih72 =>
              intro i b q hn9 hi hq hb9 hq9b H locs hM hS ls hl
              refine lv_iload hx hb dX11_choose_72 (lv_at hl 4 rfl) ?_
              refine lv_aload_n hx hb dX11_choose_74 rfl (lv_at hl 0 rfl) ?_
              refine mq_get (ci := 16) (v := .ref (ad 21 0 0)) (C := RX11) (T := TX11) (N := 4) hx hb hts nX11 hown hK hM y20_235 rfl 2 (by decide) w1 (fun _ h9 => h9) rfl dX11_choose_75 ?_
              refine mq_calli (va_runV (As := []) (rest := [.int (nI i)]) ⟨hx, hb, hml, hown, hts⟩ (c_Jx4a65c_size_8abf5 l G A f9 (ad 21 0 0) (yS Y).1 (lsD G (yS Y).2 (ad 22 0 0)) (aN S2)) (cwV 0 hts gX11_choose_Jx4a65c_size_8abf5 rfl rfl rfl (by decide +kernel) ⟨Nat.le_of_ble_eq_true rfl, Nat.le_of_ble_eq_true rfl⟩) (mq_preV hK hZ hS hA hM (q := (RJx4a65c, TJx4a65c, 3)) y21_236 rfl (y21_236) _) rfl rfl hl.1 rfl (lv_room (Nat.le_of_ble_eq_true rfl)) dX11_choose_78 ⟨Nat.le_of_ble_eq_true rfl, Nat.le_of_ble_eq_true rfl⟩) hS (fun r78 g78 H locs p78 hM hS => ?_)
              refine W.widen (k := 12) (n := 107) (Nat.le_of_ble_eq_true rfl) (Nat.le_of_ble_eq_true rfl) ?_
              obtain ⟨rfl, rfl⟩ := p78
              refine lv_icmp_ge (tgt := 158) hx hb dX11_choose_81 (by decide) (fun c_81 => ?_) (fun c_81 => ?_)
              · replace c_81 : nI (aN S2) ≤ nI i := c_81
                rw [nI_leI (by omega) (by omega)] at c_81
                have hcb : chs S2 j = b := by rw [chs_no (fun i hi => hno i (by omega)), show aN S2 = i by omega, ← hq]
                refine lv_aload_n hx hb dX11_choose_158 rfl (lv_at hl 0 rfl) ?_
                refine lv_iload_n hx hb dX11_choose_159 rfl (lv_at hl 2 rfl) ?_
                refine lv_iconst (v := (-1)) hx hb dX11_choose_160 (by decide) ?_
                refine lv_icmp_ne (tgt := 168) hx hb dX11_choose_161 (by decide) (fun c_161 => ?_) (fun c_161 => ?_)
                · replace c_161 : ¬ du b = (-1) := c_161
                  rw [du_m1 (by omega)] at c_161
                  refine lv_iconst (v := 0) hx hb dX11_choose_168 (by decide) ?_
                  refine lv_iconst (v := 2) hx hb dX11_choose_169 (by decide) ?_
                  refine mq_calli (va_runV (As := [.int 0, .int 2]) (rest := []) ⟨hx, hb, hml, hown, hts⟩ (c_X11_fails l G A f9 (ad 20 0 0) false 2 0 (nI (aD S2)) (ad 21 0 0) (ad 23 0 0)) (cwV 2 hts gX11_choose_X11_fails rfl rfl rfl (by decide +kernel) ⟨Nat.le_of_ble_eq_true rfl, Nat.le_of_ble_eq_true rfl⟩) (mq_preV hK hZ hS hA hM (q := (RX11, TX11, 4)) y20_235 rfl (y20_235) _) rfl rfl hl.1 rfl (lv_room (Nat.le_of_ble_eq_true rfl)) dX11_choose_170 ⟨Nat.le_of_ble_eq_true rfl, Nat.le_of_ble_eq_true rfl⟩) hS (fun r170 g170 H locs p170 hM hS => ?_)
                  refine W.widen (k := 12) (n := 107) (Nat.le_of_ble_eq_true rfl) (Nat.le_of_ble_eq_true rfl) ?_
                  obtain ⟨hg, hr9⟩ := p170
                  obtain rfl := fl_0 y20_235 hg
                  rw [hr9, show zb (decide (fT false 0 2 ≠ 0)) = 0 from by decide]
                  refine lv_if_eq (tgt := 180) hx hb dX11_choose_173 (by decide) (fun c_173 => ?_) (fun c_173 => absurd c_173 (by decide))
                  refine lv_iload_n hx hb dX11_choose_180 rfl (lv_at hl 2 rfl) ?_
                  exact mq_iret (v := du b) hx hb hr hlocks hM hS (⟨0, (spL_y hj hl4).trans ((chV_y (e := b - 1) (by rw [hcb]; omega)).trans (by rw [du_nI c_161])), hR8⟩) dX11_choose_181
                · replace c_161 : du b = (-1) := c_161
                  rw [du_m1 (by omega)] at c_161
                  refine lv_iconst (v := 1) hx hb dX11_choose_164 (by decide) ?_
                  refine lv_goto (tgt := 169) hx hb dX11_choose_165 (by decide) ?_
                  refine lv_iconst (v := 2) hx hb dX11_choose_169 (by decide) ?_
                  refine mq_calli (va_runV (As := [.int 1, .int 2]) (rest := []) ⟨hx, hb, hml, hown, hts⟩ (c_X11_fails l G A f9 (ad 20 0 0) true 2 0 (nI (aD S2)) (ad 21 0 0) (ad 23 0 0)) (cwV 2 hts gX11_choose_X11_fails rfl rfl rfl (by decide +kernel) ⟨Nat.le_of_ble_eq_true rfl, Nat.le_of_ble_eq_true rfl⟩) (mq_preV hK hZ hS hA hM (q := (RX11, TX11, 4)) y20_235 rfl (y20_235) _) rfl rfl hl.1 rfl (lv_room (Nat.le_of_ble_eq_true rfl)) dX11_choose_170 ⟨Nat.le_of_ble_eq_true rfl, Nat.le_of_ble_eq_true rfl⟩) hS (fun r170 g170 H locs p170 hM hS => ?_)
                  refine W.widen (k := 12) (n := 107) (Nat.le_of_ble_eq_true rfl) (Nat.le_of_ble_eq_true rfl) ?_
                  obtain ⟨hg, hr9⟩ := p170
                  rw [hr9, show zb (decide (fT true 0 2 ≠ 0)) = 1 from by decide]
                  refine lv_if_eq (tgt := 180) hx hb dX11_choose_173 (by decide) (fun c_173 => absurd c_173 (by decide)) (fun c_173 => ?_)
                  refine lv_iconst (v := 0) hx hb dX11_choose_176 (by decide) ?_
                  refine lv_goto (tgt := 181) hx hb dX11_choose_177 (by decide) ?_
                  exact mq_iret (v := 0) hx hb hr hlocks hM hS (⟨2, (spL_y hj hl4).trans (chV_n (hcb.trans c_161)), by have q9 := WR_yt hR8 hg; exact q9⟩) dX11_choose_181
              · replace c_81 : ¬ nI (aN S2) ≤ nI i := c_81
                rw [nI_leI (by omega) (by omega)] at c_81
                have hcs : (yS Y).2 ≠ 0 := by omega
                have mab := hma j i hj (by omega)
                have mab1 := mab.1
                have mab5 := mab.2.2.2.2.1
                have k3 := (hsk i (by omega)).2.2.1
                have hpr : prd S2 j i ≤ 1000 * 500 := Nat.mul_le_mul (by omega) k3
                have y121_231 := hR8.1 _ _ _ _ (t121 hcs)
                have y22_232 := hR8.1 _ _ _ _ (t22 hcs)
                have y25_233 := hR8.1 _ _ _ _ (t25 (j := i) (by omega))
                have y29_234 := hR8.1 _ _ _ _ (t29 (j := j) (k := i) hj (by omega))
                refine lv_sipush (v := 1000) hx hb dX11_choose_84 (by decide) ?_
                refine lv_aload_n hx hb dX11_choose_87 rfl (lv_at hl 0 rfl) ?_
                refine lv_iload_n hx hb dX11_choose_88 rfl (lv_at hl 1 rfl) ?_
                refine lv_iload hx hb dX11_choose_89 (lv_at hl 4 rfl) ?_
                refine mq_callq (va_runV (As := [.int (nI j), .int (nI i)]) (rest := [.int 1000]) ⟨hx, hb, hml, hown, hts⟩ (c_X11_of l G A f9 ad S X S2 (yThr Y 0) O T j i) (cwV 2 hts gX11_choose_X11_of rfl rfl rfl (by decide +kernel) ⟨Nat.le_of_ble_eq_true rfl, Nat.le_of_ble_eq_true rfl⟩) (mq_preV hK hZ hS hA hM (q := (RX11, TX11, 4)) y20_235 rfl (⟨hR8, (hO.thr 0), hj, by omega⟩) _) rfl rfl hl.1 rfl (lv_room (Nat.le_of_ble_eq_true rfl)) dX11_choose_91 ⟨Nat.le_of_ble_eq_true rfl, Nat.le_of_ble_eq_true rfl⟩) hS (fun r91 g91 H locs p91 hM hS => ?_)
                refine W.widen (k := 12) (n := 107) (Nat.le_of_ble_eq_true rfl) (Nat.le_of_ble_eq_true rfl) ?_
                obtain ⟨rfl, rfl⟩ := p91
                refine mq_get (ci := 13) (v := .int (nI (mOd (aM S2 j i)))) (C := RX8) (T := TX8) (N := 6) hx hb hts nX8 hown hK hM y29_234 rfl 0 (by decide) w2 (fun _ h9 => h9) rfl dX11_choose_94 ?_
                refine lv_isub hx hb dX11_choose_97 ?_
                rw [show 1000 - (nI (mOd (aM S2 j i))) = nI (1000 - (mOd (aM S2 j i))) from pk_sub (a := 1000) (b := mOd (aM S2 j i)) (by omega)]
                refine lv_aload_n hx hb dX11_choose_98 rfl (lv_at hl 0 rfl) ?_
                refine mq_get (ci := 16) (v := .ref (ad 21 0 0)) (C := RX11) (T := TX11) (N := 4) hx hb hts nX11 hown hK hM y20_235 rfl 2 (by decide) w1 (fun _ h9 => h9) rfl dX11_choose_99 ?_
                refine lv_iload hx hb dX11_choose_102 (lv_at hl 4 rfl) ?_
                refine mq_callq (va_runV (As := [.int (nI i)]) (rest := [.int (nI (1000 - (mOd (aM S2 j i))))]) ⟨hx, hb, hml, hown, hts⟩ (c_Jx4a65c_get_915e3 l G A f9 (ad 21 0 0) (yS Y).1 (ad 22 0 0) (yS Y).2 (aN S2) i (fun i => ad 25 i 0)) (cwV 1 hts gX11_choose_Jx4a65c_get_915e3 rfl rfl rfl (by decide +kernel) ⟨Nat.le_of_ble_eq_true rfl, Nat.le_of_ble_eq_true rfl⟩) (mq_preV hK hZ hS hA hM (q := (RJx4a65c, TJx4a65c, 3)) y121_231 rfl (⟨y121_231, y22_232, by omega, hns, by omega⟩) _) rfl rfl hl.1 rfl (lv_room (Nat.le_of_ble_eq_true rfl)) dX11_choose_104 ⟨Nat.le_of_ble_eq_true rfl, Nat.le_of_ble_eq_true rfl⟩) hS (fun r104 g104 H locs p104 hM hS => ?_)
                refine W.widen (k := 12) (n := 107) (Nat.le_of_ble_eq_true rfl) (Nat.le_of_ble_eq_true rfl) ?_
                obtain ⟨rfl, rfl⟩ := p104
                refine mq_castG hx hb hown w3 (mq_recv hK hM y25_233 rfl) dX11_choose_107 ?_
                refine mq_get (ci := 15) (v := .int (nI ((aS S2 i).2.2.1))) (C := RX10) (T := TX10) (N := 4) hx hb hts nX10 hown hK hM y25_233 rfl 2 (by decide) w4 (fun _ h9 => h9) rfl dX11_choose_110 ?_
                refine lv_imul hx hb dX11_choose_113 ?_
                rw [show (nI (1000 - (mOd (aM S2 j i)))) * (nI ((aS S2 i).2.2.1)) = nI ((1000 - (mOd (aM S2 j i))) * ((aS S2 i).2.2.1)) from pk_mul _ _]
                rw [show (1000 - mOd (aM S2 j i)) * (aS S2 i).2.2.1 = prd S2 j i from rfl]
                refine lv_istore (lv' := [(5, .int (nI (prd S2 j i))), (0, .ref (ad 20 0 0)), (1, .int (nI j)), (2, .int (du b)), (3, .int (du q)), (4, .int (nI i))]) hx hb dX11_choose_114 hl (by decide) rfl (fun ls hl => ?_)
                refine lv_aload_n hx hb dX11_choose_116 rfl (lv_at hl 1 rfl) ?_
                refine lv_iload_n hx hb dX11_choose_117 rfl (lv_at hl 2 rfl) ?_
                refine lv_iload hx hb dX11_choose_118 (lv_at hl 5 rfl) ?_
                refine mq_callq (va_runV (As := [.int (nI j), .int (nI i)]) (rest := []) ⟨hx, hb, hml, hown, hts⟩ (c_X11_of l G A f9 ad S X S2 (yThr Y 0) O T j i) (cwV 2 hts gX11_choose_X11_of rfl rfl rfl (by decide +kernel) ⟨Nat.le_of_ble_eq_true rfl, Nat.le_of_ble_eq_true rfl⟩) (mq_preV hK hZ hS hA hM (q := (RX11, TX11, 4)) y20_235 rfl (⟨hR8, (hO.thr 0), hj, by omega⟩) _) rfl rfl hl.1 rfl (lv_room (Nat.le_of_ble_eq_true rfl)) dX11_choose_120 ⟨Nat.le_of_ble_eq_true rfl, Nat.le_of_ble_eq_true rfl⟩) hS (fun r120 g120 H locs p120 hM hS => ?_)
                refine W.widen (k := 12) (n := 107) (Nat.le_of_ble_eq_true rfl) (Nat.le_of_ble_eq_true rfl) ?_
                obtain ⟨rfl, rfl⟩ := p120
                refine mq_get (ci := 13) (v := .int (du (mDu (aM S2 j i)))) (C := RX8) (T := TX8) (N := 6) hx hb hts nX8 hown hK hM y29_234 rfl 5 (by decide) w5 (fun _ h9 => h9) rfl dX11_choose_123 ?_
                refine lv_iconst (v := (-1)) hx hb dX11_choose_126 (by decide) ?_
                refine lv_icmp_ne (tgt := 152) hx hb dX11_choose_127 (by decide) (fun c_127 => ?_) (fun c_127 => ?_)
                · replace c_127 : ¬ du (mDu (aM S2 j i)) = (-1) := c_127
                  rw [du_m1 (by omega)] at c_127
                  refine lv_iinc (v := nI (i + 1)) (lv' := [(4, .int (nI (i + 1))), (5, .int (nI (prd S2 j i))), (0, .ref (ad 20 0 0)), (1, .int (nI j)), (2, .int (du b)), (3, .int (du q))]) hx hb dX11_choose_152 hl (k := 5) rfl (nI_add _ _) (by decide) rfl (fun ls hl => ?_)
                  refine lv_goto (tgt := 72) hx hb dX11_choose_155 (by decide) ?_
                  exact ih72 (i + 1) b q (by omega) (by omega) (by show _ = bnS _ _ _ _; rw [← hq]; unfold bnS; rw [decide_eq_false c_127]; rfl) (by omega) (by omega) _ _ hM hS _ (lv_sub hl [2, 3, 4, 5, 0] rfl)
                · replace c_127 : du (mDu (aM S2 j i)) = (-1) := c_127
                  rw [du_m1 (by omega)] at c_127
                  refine lv_aload_n hx hb dX11_choose_130 rfl (lv_at hl 1 rfl) ?_
                  refine lv_iload_n hx hb dX11_choose_131 rfl (lv_at hl 2 rfl) ?_
                  refine lv_iload hx hb dX11_choose_132 (lv_at hl 5 rfl) ?_
                  refine mq_calli (va_runV (As := [.int (nI j), .int (nI i)]) (rest := []) ⟨hx, hb, hml, hown, hts⟩ (c_X11_openFor l G A f9 ad S X S2 (yThr Y 0) O T j i) (cwV 2 hts gX11_choose_X11_openFor rfl rfl rfl (by decide +kernel) ⟨Nat.le_of_ble_eq_true rfl, Nat.le_of_ble_eq_true rfl⟩) (mq_preV hK hZ hS hA hM (q := (RX11, TX11, 4)) y20_235 rfl (⟨hR8, hO.thr 0, hj, by omega⟩) _) rfl rfl hl.1 rfl (lv_room (Nat.le_of_ble_eq_true rfl)) dX11_choose_134 ⟨Nat.le_of_ble_eq_true rfl, Nat.le_of_ble_eq_true rfl⟩) hS (fun r134 g134 H locs p134 hM hS => ?_)
                  refine W.widen (k := 12) (n := 107) (Nat.le_of_ble_eq_true rfl) (Nat.le_of_ble_eq_true rfl) ?_
                  obtain ⟨rfl, rfl⟩ := p134
                  refine lv_if_eq (tgt := 152) hx hb dX11_choose_137 (by decide) (fun c_137 => ?_) (fun c_137 => ?_)
                  · replace c_137 : zb (opn S2 j i) = 0 := c_137
                    rw [zb_0] at c_137
                    refine lv_iinc (v := nI (i + 1)) (lv' := [(4, .int (nI (i + 1))), (5, .int (nI (prd S2 j i))), (0, .ref (ad 20 0 0)), (1, .int (nI j)), (2, .int (du b)), (3, .int (du q))]) hx hb dX11_choose_152 hl (k := 5) rfl (nI_add _ _) (by decide) rfl (fun ls hl => ?_)
                    refine lv_goto (tgt := 72) hx hb dX11_choose_155 (by decide) ?_
                    exact ih72 (i + 1) b q (by omega) (by omega) (by show _ = bnS _ _ _ _; rw [← hq]; unfold bnS; rw [c_137, Bool.and_false, Bool.and_false]; rfl) (by omega) (by omega) _ _ hM hS _ (lv_sub hl [2, 3, 4, 5, 0] rfl)
                  · replace c_137 : ¬ zb (opn S2 j i) = 0 := c_137
                    rw [zb_n0] at c_137
                    refine lv_iload hx hb dX11_choose_140 (lv_at hl 0 rfl) ?_
                    refine lv_iload_n hx hb dX11_choose_142 rfl (lv_at hl 4 rfl) ?_
                    refine lv_icmp_le (tgt := 152) hx hb dX11_choose_143 (by decide) (fun c_143 => ?_) (fun c_143 => ?_)
                    · replace c_143 : nI (prd S2 j i) ≤ du q := c_143
                      rw [du_Nle (by omega) (by omega)] at c_143
                      refine lv_iinc (v := nI (i + 1)) (lv' := [(4, .int (nI (i + 1))), (5, .int (nI (prd S2 j i))), (0, .ref (ad 20 0 0)), (1, .int (nI j)), (2, .int (du b)), (3, .int (du q))]) hx hb dX11_choose_152 hl (k := 5) rfl (nI_add _ _) (by decide) rfl (fun ls hl => ?_)
                      refine lv_goto (tgt := 72) hx hb dX11_choose_155 (by decide) ?_
                      exact ih72 (i + 1) b q (by omega) (by omega) (by show _ = bnS _ _ _ _; rw [← hq]; unfold bnS; rw [decide_eq_false (show ¬ (b, q).2 < prd S2 j i + 1 by show ¬ q < _; omega), Bool.false_and, Bool.and_false]; rfl) (by omega) (by omega) _ _ hM hS _ (lv_sub hl [2, 3, 4, 5, 0] rfl)
                    · replace c_143 : ¬ nI (prd S2 j i) ≤ du q := c_143
                      rw [du_Nle (by omega) (by omega)] at c_143
                      refine lv_iload hx hb dX11_choose_146 (lv_at hl 5 rfl) ?_
                      refine lv_istore_n (lv' := [(2, .int (nI i)), (5, .int (nI (prd S2 j i))), (0, .ref (ad 20 0 0)), (1, .int (nI j)), (3, .int (du q)), (4, .int (nI i))]) hx hb dX11_choose_148 rfl hl (by decide) rfl (fun ls hl => ?_)
                      refine lv_iload hx hb dX11_choose_149 (lv_at hl 1 rfl) ?_
                      refine lv_istore_n (lv' := [(3, .int (nI (prd S2 j i))), (2, .int (nI i)), (5, .int (nI (prd S2 j i))), (0, .ref (ad 20 0 0)), (1, .int (nI j)), (4, .int (nI i))]) hx hb dX11_choose_151 rfl hl (by decide) rfl (fun ls hl => ?_)
                      refine lv_iinc (v := nI (i + 1)) (lv' := [(4, .int (nI (i + 1))), (3, .int (nI (prd S2 j i))), (2, .int (nI i)), (5, .int (nI (prd S2 j i))), (0, .ref (ad 20 0 0)), (1, .int (nI j))]) hx hb dX11_choose_152 hl (k := 5) rfl (nI_add _ _) (by decide) rfl (fun ls hl => ?_)
                      refine lv_goto (tgt := 72) hx hb dX11_choose_155 (by decide) ?_
                      rw [← du_S i, ← du_S (prd S2 j i)] at hl
                      exact ih72 (i + 1) (i + 1) (prd S2 j i + 1) (by omega) (by omega) (by show _ = bnS _ _ _ _; rw [← hq]; unfold bnS; rw [c_137, decide_eq_true c_127, decide_eq_true (by show q < _; omega)]; rfl) (by omega) (by omega) _ _ hM hS _ (lv_sub hl [4, 5, 2, 1, 0] rfl)
          rw [show (-1 : Int32) = du 0 from rfl] at hl
          exact K72 _ 0 0 0 (Nat.lt_succ_self _) (Nat.zero_le _) (rfl) (Nat.le_refl _) (by omega) _ _ hM hS _ (lv_sub hl [3, 4, 2, 1, 0] rfl)
        · replace c_35 : ¬ zb (decide (t ≠ (dqL S2 j).length)) = 0 := c_35
          rw [zb_n0] at c_35
          have hi2 : t < (dqL S2 j).length := Nat.lt_of_le_of_ne ht (by simpa using c_35)
          have hk0 : k9 ≠ 0 := by have := hd9.2.2.2.2.2.1; omega
          have yx7 := yx8
          rw [lsD_1 hk0] at yx7
          have yd7 := hk9 _ _ (hd9.2.1 hk0)
          have he9 := (rah_at hi2).2.1
          refine lv_aload_n hx hb dX11_choose_38 rfl (lv_at hl 2 rfl) ?_
          refine mq_callFq (va_runF (hK.1 3 _ rfl).2 (As := []) (rest := []) ⟨hx, hb, hml, hown, hts⟩ (c_Jx35411_next_0502b l G A f9 q25 x9 t lr9 mo9 d9 k9 (dqL S2 j).length (fun i => sI G ((dqL S2 j).getD i 0 + 128))) (va_cwF 0 hts gX11_choose_Jx35411_next_0502b_f144Jx35411 rfl rfl rfl (mq_itf hZ (by decide)) ⟨by decide, by decide, by decide +kernel⟩ ⟨Nat.le_of_ble_eq_true rfl, Nat.le_of_ble_eq_true rfl⟩) (mq_preV hK hZ hS hA hM (q := (RJx35411, TJx35411, 4)) hq9 rfl (⟨hq9, yx7, yd7, hi2, hd9.2.2.2.2.2.1, by have := hd9.2.2.2.2.1; omega⟩) _) rfl rfl hl.1 rfl (lv_room (Nat.le_of_ble_eq_true rfl)) dX11_choose_39 ⟨Nat.le_of_ble_eq_true rfl, Nat.le_of_ble_eq_true rfl⟩) hS (fun r39 g39 H locs p39 hM hS => ?_)
          refine W.widen (k := 12) (n := 107) (Nat.le_of_ble_eq_true rfl) (Nat.le_of_ble_eq_true rfl) ?_
          obtain ⟨hg39, rfl⟩ := p39
          have hR7 := RR.mono hR9 (fun y e he => mq_n hg39 (hk9 y e he) (mq_neN he hq25))
          have h_10 : g39 (ad 20 0 0) = some (.inr (16, [.int 0, .int (nI (aD S2)), .ref (ad 21 0 0), .ref (ad 23 0 0)])) := mq_n hg39 y20_235 (mq_neO y20_235 hq9 (by decide))
          have h_11 : g39 (ad 21 0 0) = some (.inr (4, [.int ((yS Y).1), .ref (lsD G (yS Y).2 (ad 22 0 0)), .int (nI (aN S2))])) := mq_n hg39 y21_236 (mq_neO y21_236 hq9 (by decide))
          have h_12 : g39 x9 = some (.inr (4, [.int mo9, .ref d9, .int (nI (dqL S2 j).length)])) := mq_n hg39 yx7 (mq_neN yx9 hq25)
          have h_13 : g39 d9 = some (.inl (G.2 8, k9, .inr (.inr (.inr (.inr (rf_of ((dqL S2 j).length) (fun i => sI G ((dqL S2 j).getD i 0 + 128)))))))) := mq_n hg39 yd7 (mq_neB yd7 hq9)
          have h_14 : g39 q25 = some (.inr (3, [.int (nI (t + 1)), .int (nI t), .int mo9, .ref x9])) := mq_s hg39
          refine mq_castG hx hb hown w6 (mq_recN hZ hS (k := (dqL S2 j).getD t 0 + 128) (by omega)) dX11_choose_44 ?_
          refine mq_calli (va_runV (As := []) (rest := []) ⟨hx, hb, hml, hown, hts⟩ (c_J6_intValue_8abf5 l G A g39 ((dqL S2 j).getD t 0)) (cwV 0 hts gX11_choose_J6_intValue_8abf5 rfl rfl rfl (by decide +kernel) ⟨Nat.le_of_ble_eq_true rfl, Nat.le_of_ble_eq_true rfl⟩) (mq_preVO hK hZ hS hA hM (mq_recN hZ hS (k := (dqL S2 j).getD t 0 + 128) (by omega)) (by omega) _) rfl rfl hl.1 rfl (lv_room (Nat.le_of_ble_eq_true rfl)) dX11_choose_47 ⟨Nat.le_of_ble_eq_true rfl, Nat.le_of_ble_eq_true rfl⟩) hS (fun r47 g47 H locs p47 hM hS => ?_)
          refine W.widen (k := 12) (n := 107) (Nat.le_of_ble_eq_true rfl) (Nat.le_of_ble_eq_true rfl) ?_
          obtain ⟨rfl, rfl⟩ := p47
          refine lv_istore_n (lv' := [(3, .int (nI ((dqL S2 j).getD t 0))), (0, .ref (ad 20 0 0)), (1, .int (nI j)), (2, .ref q25)]) hx hb dX11_choose_50 rfl hl (by decide) rfl (fun ls hl => ?_)
          refine lv_aload_n hx hb dX11_choose_51 rfl (lv_at hl 1 rfl) ?_
          refine lv_iload_n hx hb dX11_choose_52 rfl (lv_at hl 2 rfl) ?_
          refine lv_iload_n hx hb dX11_choose_53 rfl (lv_at hl 0 rfl) ?_
          refine mq_calli (va_runV (As := [.int (nI j), .int (nI ((dqL S2 j).getD t 0))]) (rest := []) ⟨hx, hb, hml, hown, hts⟩ (c_X11_openFor l G A g39 ad S X S2 (yThr Y 0) O T j ((dqL S2 j).getD t 0)) (cwV 2 hts gX11_choose_X11_openFor rfl rfl rfl (by decide +kernel) ⟨Nat.le_of_ble_eq_true rfl, Nat.le_of_ble_eq_true rfl⟩) (mq_preV hK hZ hS hA hM (q := (RX11, TX11, 4)) h_10 rfl (⟨hR7, hO.thr 0, hj, he9⟩) _) rfl rfl hl.1 rfl (lv_room (Nat.le_of_ble_eq_true rfl)) dX11_choose_54 ⟨Nat.le_of_ble_eq_true rfl, Nat.le_of_ble_eq_true rfl⟩) hS (fun r54 g54 H locs p54 hM hS => ?_)
          refine W.widen (k := 12) (n := 107) (Nat.le_of_ble_eq_true rfl) (Nat.le_of_ble_eq_true rfl) ?_
          obtain ⟨rfl, rfl⟩ := p54
          refine lv_if_eq (tgt := 62) hx hb dX11_choose_57 (by decide) (fun c_57 => ?_) (fun c_57 => ?_)
          · replace c_57 : zb (opn S2 j ((dqL S2 j).getD t 0)) = 0 := c_57
            rw [zb_0] at c_57
            refine lv_goto (tgt := 29) hx hb dX11_choose_62 (by decide) ?_
            exact W.widen (by first | omega | (simp only [List.length_nil]; omega)) (by first | omega | (simp only [List.length_nil]; omega)) (ih29 (t + 1) (nI t) (by omega) (by omega) (fun i hi => if hit : i = t then by rw [hit]; exact c_57 else hno i (by omega)) _ h_14 (fun y e he => mq_n hg39 (hk9 y e he) (mq_neN he hq25)) _ _ hM hS _ (lv_sub hl [1, 2, 3] rfl))
          · replace c_57 : ¬ zb (opn S2 j ((dqL S2 j).getD t 0)) = 0 := c_57
            rw [zb_n0] at c_57
            refine lv_iload_n hx hb dX11_choose_60 rfl (lv_at hl 0 rfl) ?_
            exact mq_iret (v := nI ((dqL S2 j).getD t 0)) hx hb hr hlocks hM hS (⟨0, (spL_y hj hl4).trans (chV_y (chs_at hi2 c_57 hno)), hR7⟩) dX11_choose_61
    exact W.widen (by first | omega | (simp only [List.length_nil]; omega)) (by first | omega | (simp only [List.length_nil]; omega)) (K29 _ 0 (-1) (Nat.lt_succ_self _) (Nat.zero_le _) (fun i hi => absurd hi (Nat.not_lt_zero i)) _ h_5 (fun y e he => mq_n hg25 he (mq_neN he hq25)) _ _ hM hS _ (lv_sub hl [1, 2, 0] rfl))
  · obtain ⟨hv9, hg⟩ := fl_n p12 c_15
    refine lv_iconst (v := 0) hx hb dX11_choose_18 (by decide) ?_
    refine W.widen (k := 12) (n := 107) (Nat.le_of_ble_eq_true rfl) (Nat.le_of_ble_eq_true rfl) ?_
    exact mq_iret (v := 0) hx hb hr hlocks hM hS (⟨1, spL_n (fun q => absurd (vI_iff.mpr q) (by rw [hv9]; decide)), by have q9 := WR_yt hR1 hg; exact q9⟩) dX11_choose_19
