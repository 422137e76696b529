/-! THE SEARCH -/
set_option maxHeartbeats 4000000 in
set_option maxRecDepth 100000 in
theorem c_X2_seek_open (l : Launch) (G : mq_G) (A : Nat → Prop) (f : mq_F) (d L : Nat) (IH : ∀ d9, d9 + 1 = d → ∀ (l : Launch) (G : mq_G) (A : Nat → Prop) (f : mq_F) (L : Nat) (x rA bA so h b mk : Nat) (er eb : Nat → Nat) (ea ebb ec ed ta tb tc td : Int32), Met l yX2_seek wsX2_seek ({ frames := (5 + d9), cells := 0, slots := 0, locals := (100 + 26 * d9) } : Room) (mq_Pc G A f (xpC G f x rA bA (some so) er eb b ∧ xpD er eb ∧ f h = some (cEq (ea, ebb, ec, ed)) ∧ f so = some (cEq (ta, tb, tc, td)) ∧ (∀ k, L ≤ k → k < 3 → h ≠ er k ∧ h ≠ eb k) ∧ (∀ k, k < 3 → so ≠ er k ∧ so ≠ eb k) ∧ mk < 32 ∧ b < 33 ∧ L + d9 = 3) [.ref x, .ref h, .int (nI L), .int (nI mk)]) (mq_Qv G A (fun g => xpC G g x rA bA (some so) er eb (sk (ta, tb, tc, td) d9 (ea, ebb, ec, ed) mk b) ∧ xpF f g x er eb L)) 0 0 A) (x rA bA so h b mk : Nat) (er eb : Nat → Nat) (ea ebb ec ed ta tb tc td : Int32) : Met l yX2_seek wsX2_seek ({ frames := (5 + d), cells := 0, slots := 0, locals := (100 + 26 * d) } : Room) (mq_Pc G A f (xpC G f x rA bA (some so) er eb b ∧ xpD er eb ∧ f h = some (cEq (ea, ebb, ec, ed)) ∧ f so = some (cEq (ta, tb, tc, td)) ∧ (∀ k, L ≤ k → k < 3 → h ≠ er k ∧ h ≠ eb k) ∧ (∀ k, k < 3 → so ≠ er k ∧ so ≠ eb k) ∧ mk < 32 ∧ b < 33 ∧ L + d = 3) [.ref x, .ref h, .int (nI L), .int (nI mk)]) (mq_Qv G A (fun g => xpC G g x rA bA (some so) er eb (sk (ta, tb, tc, td) d (ea, ebb, ec, ed) mk b) ∧ xpF f g x er eb L)) 0 0 A := by
  refine Met.ofW (cc := cX2_seek) (maxL := 7) (ret := none) (by decide) rfl ?_
  intro p e s m args below meth c s₁ B hml hv
  obtain ⟨rfl, ⟨hK, hZ, hM, hA⟩, hp⟩ := hv
  have hx := B.exec
  have hb := B.bytes
  have hr := B.returns
  have hts := atoms_spec (ws := wsX2_seek) B.pre
  have hown : s.vm.findClass RX2 = some m.cls := findClass_of_methodNamed B.named
  have hlocks := B.notSynchronized
  have hS : va_S A s.heap s.heap [] := va_S.rf
  have hl := lv_entry ([.ref x, .ref h, .int (nI L), .int (nI mk)]) (n := 7) (Nat.le_of_ble_eq_true rfl)
  rw [lg_entry_eq]
  generalize (lg_sl ([.ref x, .ref h, .int (nI L), .int (nI mk)]) ++ List.replicate (7 - (lg_sl ([.ref x, .ref h, .int (nI L), .int (nI mk)])).length) Slot.unset).toArray = ls at hl ⊢
  have hl : lv_has ls 7 [(0, .ref x), (1, .ref h), (2, .int (nI L)), (3, .int (nI mk))] := hl
  have w0 := hts (.fieldLink RX2 29 "Tutorlight$Explainer" "sought" "LTutorlight$Equation;") (List.mem_of_getElem? (i := 1) rfl)
  have w1 := hts (.fieldLink RX2 13 "Tutorlight$Explainer" "byRight" "[LTutorlight$Equation;") (List.mem_of_getElem? (i := 3) rfl)
  have w2 := hts (.fieldLink RX2 17 "Tutorlight$Explainer" "byBroken" "[LTutorlight$Equation;") (List.mem_of_getElem? (i := 4) rfl)
  have w3 := hts (.fieldLink RX2 32 "Tutorlight$Explainer" "best" "I") (List.mem_of_getElem? (i := 2) rfl)
  have nX2 : ∀ w ∈ wsX20, w ∈ wsX2_seek := fun _ h => List.mem_cons_of_mem _ (List.mem_append_left _ (List.mem_append_left _ (List.mem_append_right _ h)))
  obtain ⟨hX0, hD, hh0, hso0, hhn, hsn, hmk, hb0, hLd⟩ := hp
  obtain ⟨x1, x2, x3, x4⟩ := hX0
  have hx0 := x1
  refine lv_aload_n hx hb dX2_seek_0 rfl (lv_at hl 0 rfl) ?_
  refine lv_iload_n hx hb dX2_seek_1 rfl (lv_at hl 3 rfl) ?_
  refine mq_calli (va_runV (As := [.int (nI mk)]) (rest := []) ⟨hx, hb, hml, hown, hts⟩ (c_X2_isBetter l G A f x rA bA b mk (some so)) (cwV 1 hts gX2_seek_X2_isBetter rfl rfl rfl (by decide +kernel) ⟨by show 1 + 1 ≤ (5 + d); omega, by show 8 + (3 + 11) + 20 ≤ (100 + 26 * d); omega⟩) (mq_preV hK hZ hS hA hM (q := (RX2, TX2, 4)) x1 rfl (⟨x1, hb0, hmk⟩) _) rfl rfl hl.1 rfl (lv_room (Nat.le_of_ble_eq_true rfl)) dX2_seek_2 ⟨Nat.le_of_ble_eq_true rfl, Nat.le_of_ble_eq_true rfl⟩) hS (fun r2 g2 H locs p2 hM hS => ?_)
  refine W.widen (k := 0) (n := 0) (Nat.le_of_ble_eq_true rfl) (Nat.le_of_ble_eq_true rfl) ?_
  obtain ⟨rfl, rfl⟩ := p2
  refine lv_if_ne (tgt := 9) hx hb dX2_seek_5 (by decide) (fun c_5 => ?_) (fun c_5 => ?_)
  · rw [zb_n0] at c_5
    refine lv_aload_n hx hb dX2_seek_9 rfl (lv_at hl 1 rfl) ?_
    refine lv_aload_n hx hb dX2_seek_10 rfl (lv_at hl 0 rfl) ?_
    refine mq_get (ci := 7) (v := .ref so) (C := RX2) (T := TX2) (N := 4) hx hb hts nX2 hown hK hM x1 rfl 2 (by decide) w0 (fun _ h9 => h9) rfl dX2_seek_11 ?_
    refine mq_calli (va_runV (As := [.ref so]) (rest := []) ⟨hx, hb, hml, hown, hts⟩ (c_X0_isSameAs l G A f h so ea ebb ec ed ta tb tc td) (cwV 1 hts gX2_seek_X0_isSameAs rfl rfl rfl (by decide +kernel) ⟨by show 0 + 1 ≤ (5 + d); omega, by show 8 + (2 + 11) + 0 ≤ (100 + 26 * d); omega⟩) (mq_preV hK hZ hS hA hM (q := (RX0, TX0, 4)) hh0 rfl (⟨hh0, hso0⟩) _) rfl rfl hl.1 rfl (lv_room (Nat.le_of_ble_eq_true rfl)) dX2_seek_14 ⟨Nat.le_of_ble_eq_true rfl, Nat.le_of_ble_eq_true rfl⟩) hS (fun r14 g14 H locs p14 hM hS => ?_)
    refine W.widen (k := 0) (n := 0) (Nat.le_of_ble_eq_true rfl) (Nat.le_of_ble_eq_true rfl) ?_
    obtain ⟨rfl, rfl⟩ := p14
    refine lv_if_eq (tgt := 26) hx hb dX2_seek_17 (by decide) (fun c_17 => ?_) (fun c_17 => ?_)
    · rw [zb_0] at c_17
      rw [decide_eq_false_iff_not] at c_17
      refine lv_iload_n hx hb dX2_seek_26 rfl (lv_at hl 2 rfl) ?_
      refine lv_if_lt (tgt := 35) hx hb dX2_seek_27 (by decide) (fun c_27 => absurd c_27 (nI_pos (by omega))) (fun c_27 => ?_)
      refine lv_iload_n hx hb dX2_seek_30 rfl (lv_at hl 2 rfl) ?_
      refine lv_iconst (v := 3) hx hb dX2_seek_31 (by decide) ?_
      refine lv_icmp_lt (tgt := 36) hx hb dX2_seek_32 (by decide) (fun c_32 => ?_) (fun c_32 => ?_)
      · replace c_32 : nI L < nI 3 := c_32
        rw [nI_ltI (by omega) (by omega)] at c_32
        obtain ⟨d9, hd9⟩ : ∃ k, d = k + 1 := ⟨d - 1, by omega⟩
        have hL3 : L < 3 := by omega
        refine lv_aload_n hx hb dX2_seek_36 rfl (lv_at hl 0 rfl) ?_
        refine mq_get (ci := 7) (v := .ref rA) (C := RX2) (T := TX2) (N := 4) hx hb hts nX2 hown hK hM x1 rfl 0 (by decide) w1 (fun _ h9 => h9) rfl dX2_seek_37 ?_
        refine lv_iload_n hx hb dX2_seek_40 rfl (lv_at hl 2 rfl) ?_
        refine mq_aald (t0 := 3) (v := .ref (er L)) hx hb hK hM rfl x2 (vp_in_nI (by omega) (by omega)) (by rw [show (nI L : Int32).toNatClampNeg = L from nI_clamp (by omega)]; exact congrArg va_rf (rf_at (by omega))) dX2_seek_41 ?_
        refine lv_astore (lv' := [(4, .ref (er L)), (0, .ref x), (1, .ref h), (2, .int (nI L)), (3, .int (nI mk))]) hx hb dX2_seek_42 hl (by decide) rfl (fun ls hl => ?_)
        refine lv_aload_n hx hb dX2_seek_44 rfl (lv_at hl 1 rfl) ?_
        refine mq_get (ci := 7) (v := .ref bA) (C := RX2) (T := TX2) (N := 4) hx hb hts nX2 hown hK hM x1 rfl 1 (by decide) w2 (fun _ h9 => h9) rfl dX2_seek_45 ?_
        refine lv_iload_n hx hb dX2_seek_48 rfl (lv_at hl 3 rfl) ?_
        refine mq_aald (t0 := 3) (v := .ref (eb L)) hx hb hK hM rfl x3 (vp_in_nI (by omega) (by omega)) (by rw [show (nI L : Int32).toNatClampNeg = L from nI_clamp (by omega)]; exact congrArg va_rf (rf_at (by omega))) dX2_seek_49 ?_
        refine lv_astore (lv' := [(5, .ref (eb L)), (4, .ref (er L)), (0, .ref x), (1, .ref h), (2, .int (nI L)), (3, .int (nI mk))]) hx hb dX2_seek_50 hl (by decide) rfl (fun ls hl => ?_)
        refine lv_iconst (v := 0) hx hb dX2_seek_52 (by decide) ?_
        refine lv_istore (lv' := [(6, .int 0), (5, .ref (eb L)), (4, .ref (er L)), (0, .ref x), (1, .ref h), (2, .int (nI L)), (3, .int (nI mk))]) hx hb dX2_seek_53 hl (by decide) rfl (fun ls hl => ?_)
        have K55 : ∀ (n9 : Nat) (i b9 : Nat), (5 - i) < n9 → (i ≤ 5) → (b9 = skL (sk (ta, tb, tc, td) d9) (ea, ebb, ec, ed) mk b i) → ∀ (f9 : mq_F), (xpC G f9 x rA bA (some so) er eb b9) → (xpF f f9 x er eb L) → (b9 < 33) → ∀ (H : Heap) (locs : List Loc), mq_W G.1 A f9 H → va_S A s.heap H locs → ∀ (ls : Array Slot), lv_has ls 7 [(0, .ref x), (1, .ref h), (2, .int (nI L)), (3, .int (nI mk)), (4, .ref (er L)), (5, .ref (eb L)), (6, .int (nI i))] → W p l e (headSpec wsX2_seek ({ frames := (5 + d), cells := 0, slots := 0, locals := (100 + 26 * d) } : Room)).room s m ([.ref x, .ref h, .int (nI L), .int (nI mk)] : List Value).toArray below meth c H locs 0 0 (MQ below (mq_Qv G A (fun g => xpC G g x rA bA (some so) er eb (sk (ta, tb, tc, td) d (ea, ebb, ec, ed) mk b) ∧ xpF f g x er eb L)) ([.ref x, .ref h, .int (nI L), .int (nI mk)] : List Value).toArray s 0 0 A) (F0 m 55 ls []) := by
          intro n9
          induction n9 with
          | zero => intro i b9 hn9; exact absurd hn9 (Nat.not_lt_zero _)
          | succ n9 ih55 =>
            intro i b9 hn9 hi hq f9 hX hF hb9 H locs hM hS ls hl
            obtain ⟨x1, x2, x3, x4⟩ := id hX
            obtain ⟨⟨⟨ra, rb, rc, rd⟩, hr9⟩, ⟨⟨ba, bb, bc, bd⟩, hb8⟩⟩ := x4 L hL3
            have hh9 : f9 h = some (cEq (ea, ebb, ec, ed)) := by rw [hF h (mq_neO hh0 hx0 (by decide)) hhn]; exact hh0
            have hs9 : f9 so = some (cEq (ta, tb, tc, td)) := by rw [hF so (mq_neO hso0 hx0 (by decide)) (fun k _ k2 => hsn k k2)]; exact hso0
            refine lv_iload hx hb dX2_seek_55 (lv_at hl 6 rfl) ?_
            refine lv_iconst (v := 5) hx hb dX2_seek_57 (by decide) ?_
            refine lv_icmp_ge (tgt := 139) hx hb dX2_seek_58 (by decide) (fun c_58 => ?_) (fun c_58 => ?_)
            · replace c_58 : nI 5 ≤ nI i := c_58
              rw [nI_leI (by omega) (by omega)] at c_58
              exact mq_vret hx hb hr hlocks hM hS (⟨by rw [show sk (ta, tb, tc, td) d (ea, ebb, ec, ed) mk b = b9 from by rw [hq, hd9, show i = 5 by omega]; simp [sk, c_5, c_17]]; exact hX, hF⟩) dX2_seek_139
            · replace c_58 : ¬ nI 5 ≤ nI i := c_58
              rw [nI_leI (by omega) (by omega)] at c_58
              refine lv_aload hx hb dX2_seek_61 (lv_at hl 4 rfl) ?_
              refine lv_aload_n hx hb dX2_seek_63 rfl (lv_at hl 1 rfl) ?_
              refine mq_callv (va_runV (As := [.ref h]) (rest := []) ⟨hx, hb, hml, hown, hts⟩ (c_X0_become l G A f9 (er L) h ra rb rc rd ea ebb ec ed) (cwV 1 hts gX2_seek_X0_become rfl rfl rfl (by decide +kernel) ⟨by show 0 + 1 ≤ (5 + d); omega, by show 8 + (2 + 11) + 0 ≤ (100 + 26 * d); omega⟩) (mq_preV hK hZ hS hA hM (q := (RX0, TX0, 4)) hr9 rfl (⟨((hhn L (Nat.le_refl L) hL3).1).symm, hr9, hh9⟩) _) rfl rfl hl.1 rfl (lv_room (Nat.le_of_ble_eq_true rfl)) dX2_seek_64 ⟨Nat.le_of_ble_eq_true rfl, Nat.le_of_ble_eq_true rfl⟩) hS (fun g64 H locs p64 hM hS => ?_)
              refine W.widen (k := 0) (n := 0) (Nat.le_of_ble_eq_true rfl) (Nat.le_of_ble_eq_true rfl) ?_
              have h_1 : g64 x = some (.inr (7, [.ref rA, .ref bA, .ref so, .int (du b9)])) := mq_n p64 x1 (mq_neO x1 hr9 (by decide))
              have h_2 : g64 h = some (.inr (5, [.int ea, .int ebb, .int ec, .int ed])) := mq_n p64 hh9 ((hhn L (Nat.le_refl L) hL3).1)
              have h_3 : g64 so = some (.inr (5, [.int ta, .int tb, .int tc, .int td])) := mq_n p64 hs9 ((hsn L hL3).1)
              have h_4 : g64 (eb L) = some (.inr (5, [.int ba, .int bb, .int bc, .int bd])) := mq_n p64 hb8 (Ne.symm ((hD L L hL3 hL3).2.2))
              have h_5 : g64 (er L) = some (.inr (5, [.int ea, .int ebb, .int ec, .int ed])) := mq_s p64
              refine lv_aload hx hb dX2_seek_67 (lv_at hl 4 rfl) ?_
              refine lv_iload hx hb dX2_seek_69 (lv_at hl 6 rfl) ?_
              refine lv_iconst (v := 0) hx hb dX2_seek_71 (by decide) ?_
              obtain ⟨⟨pa, pb, pc_, pd⟩, hq1⟩ : ∃ q, q = eq_rule i false (ea, ebb, ec, ed) := ⟨_, rfl⟩
              refine mq_callv (va_runV (As := [.int (nI i), .int 0]) (rest := []) ⟨hx, hb, hml, hown, hts⟩ (c_X0_applyRule l G A g64 (er L) ea ebb ec ed i false) (cwV 2 hts gX2_seek_X0_applyRule rfl rfl rfl (by decide +kernel) ⟨by show 1 + 1 ≤ (5 + d); omega, by show 8 + (3 + 11) + 22 ≤ (100 + 26 * d); omega⟩) (mq_preV hK hZ hS hA hM (q := (RX0, TX0, 4)) h_5 rfl (⟨h_5, by omega⟩) _) rfl rfl hl.1 rfl (lv_room (Nat.le_of_ble_eq_true rfl)) dX2_seek_72 ⟨Nat.le_of_ble_eq_true rfl, Nat.le_of_ble_eq_true rfl⟩) hS (fun g72 H locs p72 hM hS => ?_)
              refine W.widen (k := 0) (n := 0) (Nat.le_of_ble_eq_true rfl) (Nat.le_of_ble_eq_true rfl) ?_
              rw [← hq1] at p72
              have h_6 : g72 x = some (.inr (7, [.ref rA, .ref bA, .ref so, .int (du b9)])) := mq_n p72 h_1 (mq_neO h_1 h_5 (by decide))
              have h_7 : g72 h = some (.inr (5, [.int ea, .int ebb, .int ec, .int ed])) := mq_n p72 h_2 ((hhn L (Nat.le_refl L) hL3).1)
              have h_8 : g72 so = some (.inr (5, [.int ta, .int tb, .int tc, .int td])) := mq_n p72 h_3 ((hsn L hL3).1)
              have h_9 : g72 (eb L) = some (.inr (5, [.int ba, .int bb, .int bc, .int bd])) := mq_n p72 h_4 (Ne.symm ((hD L L hL3 hL3).2.2))
              have h_10 : g72 (er L) = some (.inr (5, [.int pa, .int pb, .int pc_, .int pd])) := mq_s p72
              refine lv_aload hx hb dX2_seek_75 (lv_at hl 5 rfl) ?_
              refine lv_aload_n hx hb dX2_seek_77 rfl (lv_at hl 1 rfl) ?_
              refine mq_callv (va_runV (As := [.ref h]) (rest := []) ⟨hx, hb, hml, hown, hts⟩ (c_X0_become l G A g72 (eb L) h ba bb bc bd ea ebb ec ed) (cwV 1 hts gX2_seek_X0_become rfl rfl rfl (by decide +kernel) ⟨by show 0 + 1 ≤ (5 + d); omega, by show 8 + (2 + 11) + 0 ≤ (100 + 26 * d); omega⟩) (mq_preV hK hZ hS hA hM (q := (RX0, TX0, 4)) h_9 rfl (⟨((hhn L (Nat.le_refl L) hL3).2).symm, h_9, h_7⟩) _) rfl rfl hl.1 rfl (lv_room (Nat.le_of_ble_eq_true rfl)) dX2_seek_78 ⟨Nat.le_of_ble_eq_true rfl, Nat.le_of_ble_eq_true rfl⟩) hS (fun g78 H locs p78 hM hS => ?_)
              refine W.widen (k := 0) (n := 0) (Nat.le_of_ble_eq_true rfl) (Nat.le_of_ble_eq_true rfl) ?_
              have h_11 : g78 x = some (.inr (7, [.ref rA, .ref bA, .ref so, .int (du b9)])) := mq_n p78 h_6 (mq_neO h_6 h_9 (by decide))
              have h_12 : g78 h = some (.inr (5, [.int ea, .int ebb, .int ec, .int ed])) := mq_n p78 h_7 ((hhn L (Nat.le_refl L) hL3).2)
              have h_13 : g78 so = some (.inr (5, [.int ta, .int tb, .int tc, .int td])) := mq_n p78 h_8 ((hsn L hL3).2)
              have h_14 : g78 (er L) = some (.inr (5, [.int pa, .int pb, .int pc_, .int pd])) := mq_n p78 h_10 ((hD L L hL3 hL3).2.2)
              have h_15 : g78 (eb L) = some (.inr (5, [.int ea, .int ebb, .int ec, .int ed])) := mq_s p78
              refine lv_aload hx hb dX2_seek_81 (lv_at hl 5 rfl) ?_
              refine lv_iload hx hb dX2_seek_83 (lv_at hl 6 rfl) ?_
              refine lv_iconst (v := 1) hx hb dX2_seek_85 (by decide) ?_
              obtain ⟨⟨sa, sb, sc, sd⟩, hq2⟩ : ∃ q, q = eq_rule i true (ea, ebb, ec, ed) := ⟨_, rfl⟩
              refine mq_callv (va_runV (As := [.int (nI i), .int 1]) (rest := []) ⟨hx, hb, hml, hown, hts⟩ (c_X0_applyRule l G A g78 (eb L) ea ebb ec ed i true) (cwV 2 hts gX2_seek_X0_applyRule rfl rfl rfl (by decide +kernel) ⟨by show 1 + 1 ≤ (5 + d); omega, by show 8 + (3 + 11) + 22 ≤ (100 + 26 * d); omega⟩) (mq_preV hK hZ hS hA hM (q := (RX0, TX0, 4)) h_15 rfl (⟨h_15, by omega⟩) _) rfl rfl hl.1 rfl (lv_room (Nat.le_of_ble_eq_true rfl)) dX2_seek_86 ⟨Nat.le_of_ble_eq_true rfl, Nat.le_of_ble_eq_true rfl⟩) hS (fun g86 H locs p86 hM hS => ?_)
              refine W.widen (k := 0) (n := 0) (Nat.le_of_ble_eq_true rfl) (Nat.le_of_ble_eq_true rfl) ?_
              rw [← hq2] at p86
              have h_16 : g86 x = some (.inr (7, [.ref rA, .ref bA, .ref so, .int (du b9)])) := mq_n p86 h_11 (mq_neO h_11 h_15 (by decide))
              have h_17 : g86 h = some (.inr (5, [.int ea, .int ebb, .int ec, .int ed])) := mq_n p86 h_12 ((hhn L (Nat.le_refl L) hL3).2)
              have h_18 : g86 so = some (.inr (5, [.int ta, .int tb, .int tc, .int td])) := mq_n p86 h_13 ((hsn L hL3).2)
              have h_19 : g86 (er L) = some (.inr (5, [.int pa, .int pb, .int pc_, .int pd])) := mq_n p86 h_14 ((hD L L hL3 hL3).2.2)
              have h_20 : g86 (eb L) = some (.inr (5, [.int sa, .int sb, .int sc, .int sd])) := mq_s p86
              have X4 := xp_putB (xp_putB (xp_putR (xp_putR hX hD hL3 p64) hD hL3 p72) hD hL3 p78) hD hL3 p86
              have F4 := xpF_B (xpF_B (xpF_R (xpF_R hF hL3 p64) hL3 p72) hL3 p78) hL3 p86
              refine lv_aload hx hb dX2_seek_89 (lv_at hl 4 rfl) ?_
              refine lv_aload_n hx hb dX2_seek_91 rfl (lv_at hl 1 rfl) ?_
              refine mq_calli (va_runV (As := [.ref h]) (rest := []) ⟨hx, hb, hml, hown, hts⟩ (c_X0_isSameAs l G A g86 (er L) h pa pb pc_ pd ea ebb ec ed) (cwV 1 hts gX2_seek_X0_isSameAs rfl rfl rfl (by decide +kernel) ⟨by show 0 + 1 ≤ (5 + d); omega, by show 8 + (2 + 11) + 0 ≤ (100 + 26 * d); omega⟩) (mq_preV hK hZ hS hA hM (q := (RX0, TX0, 4)) h_19 rfl (⟨h_19, h_17⟩) _) rfl rfl hl.1 rfl (lv_room (Nat.le_of_ble_eq_true rfl)) dX2_seek_92 ⟨Nat.le_of_ble_eq_true rfl, Nat.le_of_ble_eq_true rfl⟩) hS (fun r92 g92 H locs p92 hM hS => ?_)
              refine W.widen (k := 0) (n := 0) (Nat.le_of_ble_eq_true rfl) (Nat.le_of_ble_eq_true rfl) ?_
              obtain ⟨rfl, rfl⟩ := p92
              refine lv_if_ne (tgt := 108) hx hb dX2_seek_95 (by decide) (fun c_95 => ?_) (fun c_95 => ?_)
              · rw [zb_n0] at c_95
                rw [decide_eq_true_eq] at c_95
                refine lv_aload hx hb dX2_seek_108 (lv_at hl 5 rfl) ?_
                refine lv_aload hx hb dX2_seek_110 (lv_at hl 4 rfl) ?_
                refine mq_calli (va_runV (As := [.ref (er L)]) (rest := []) ⟨hx, hb, hml, hown, hts⟩ (c_X0_isSameAs l G A g86 (eb L) (er L) sa sb sc sd pa pb pc_ pd) (cwV 1 hts gX2_seek_X0_isSameAs rfl rfl rfl (by decide +kernel) ⟨by show 0 + 1 ≤ (5 + d); omega, by show 8 + (2 + 11) + 0 ≤ (100 + 26 * d); omega⟩) (mq_preV hK hZ hS hA hM (q := (RX0, TX0, 4)) h_20 rfl (⟨h_20, h_19⟩) _) rfl rfl hl.1 rfl (lv_room (Nat.le_of_ble_eq_true rfl)) dX2_seek_112 ⟨Nat.le_of_ble_eq_true rfl, Nat.le_of_ble_eq_true rfl⟩) hS (fun r112 g112 H locs p112 hM hS => ?_)
                refine W.widen (k := 0) (n := 0) (Nat.le_of_ble_eq_true rfl) (Nat.le_of_ble_eq_true rfl) ?_
                obtain ⟨rfl, rfl⟩ := p112
                refine lv_if_ne (tgt := 133) hx hb dX2_seek_115 (by decide) (fun c_115 => ?_) (fun c_115 => ?_)
                · rw [zb_n0] at c_115
                  rw [decide_eq_true_eq] at c_115
                  refine lv_iinc (v := nI (i + 1)) (lv' := [(6, .int (nI (i + 1))), (0, .ref x), (1, .ref h), (2, .int (nI L)), (3, .int (nI mk)), (4, .ref (er L)), (5, .ref (eb L))]) hx hb dX2_seek_133 hl (k := 6) rfl (nI_add _ _) (by decide) rfl (fun ls hl => ?_)
                  refine lv_goto (tgt := 55) hx hb dX2_seek_136 (by decide) ?_
                  exact ih55 (i + 1) b9 (by omega) (by omega) (by rw [hq]; show _ = skS _ _ _ _ _; unfold skS; rw [← hq1, ← hq2, if_neg (not_not_intro c_115), if_neg (not_not_intro c_95)]) _  (X4) (F4) (hb9) _ _ hM hS _ (lv_sub hl [1, 2, 3, 4, 5, 6, 0] rfl)
                · rw [zb_0] at c_115
                  rw [decide_eq_false_iff_not] at c_115
                  refine lv_aload_n hx hb dX2_seek_118 rfl (lv_at hl 0 rfl) ?_
                  refine lv_aload hx hb dX2_seek_119 (lv_at hl 5 rfl) ?_
                  refine lv_iload_n hx hb dX2_seek_121 rfl (lv_at hl 2 rfl) ?_
                  refine lv_iconst (v := 1) hx hb dX2_seek_122 (by decide) ?_
                  refine lv_iadd hx hb dX2_seek_123 ?_
                  rw [show (nI L) + 1 = nI (L + 1) from nI_add _ _]
                  refine lv_iload_n hx hb dX2_seek_124 rfl (lv_at hl 3 rfl) ?_
                  refine lv_iconst (v := 1) hx hb dX2_seek_125 (by decide) ?_
                  refine lv_iload hx hb dX2_seek_126 (lv_at hl 6 rfl) ?_
                  refine lv_ishl hx hb dX2_seek_128 ?_
                  rw [show 1 <<< ((nI i) &&& 31) = nI (2 ^ i) from dw_shl _ (by omega)]
                  refine lv_ior hx hb dX2_seek_129 ?_
                  rw [show (nI mk) ||| (nI (2 ^ i)) = nI (mk ||| 2 ^ i) from or_nI _ _]
                  refine mq_callv (va_runS (As := [.ref x, .ref (eb L), .int (nI (L + 1)), .int (nI (mk ||| 2 ^ i))]) (rest := []) ⟨hx, hb, hml, hown, hts⟩ (IH d9 hd9.symm l G A g86 (L + 1) x rA bA so (eb L) b9 (mk ||| 2 ^ i) er eb sa sb sc sd ta tb tc td) (va_cwS 4 hts gX2_seek_X2_seek rfl rfl rfl (by decide +kernel) ⟨by show (5 + d9) + 1 ≤ (5 + d); omega, by show 8 + (7 + 11) + (100 + 26 * d9) ≤ (100 + 26 * d); omega⟩) (mq_preS hK hZ hS hA hM (⟨X4, hD, h_20, h_18, fun k k1 k2 => ⟨((hD k L k2 hL3).2.2).symm, fun w => absurd ((hD L k hL3 k2).2.1 w) (by omega)⟩, hsn, or_lt32 hmk (by omega), hb9, by omega⟩) _) rfl rfl hl.1 rfl (lv_room (Nat.le_of_ble_eq_true rfl)) dX2_seek_130 ⟨Nat.le_of_ble_eq_true rfl, Nat.le_of_ble_eq_true rfl⟩) hS (fun g130 H locs p130 hM hS => ?_)
                  refine W.widen (k := 0) (n := 0) (Nat.le_of_ble_eq_true rfl) (Nat.le_of_ble_eq_true rfl) ?_
                  obtain ⟨X6, F6⟩ := p130
                  have F6 := xpF_up F4 F6
                  have l6 := sk_lt (ta, tb, tc, td) d9 (sa, sb, sc, sd) (mk ||| 2 ^ i) b9 (or_lt32 hmk (by omega)) hb9
                  refine lv_iinc (v := nI (i + 1)) (lv' := [(6, .int (nI (i + 1))), (0, .ref x), (1, .ref h), (2, .int (nI L)), (3, .int (nI mk)), (4, .ref (er L)), (5, .ref (eb L))]) hx hb dX2_seek_133 hl (k := 6) rfl (nI_add _ _) (by decide) rfl (fun ls hl => ?_)
                  refine lv_goto (tgt := 55) hx hb dX2_seek_136 (by decide) ?_
                  exact ih55 (i + 1) (sk (ta, tb, tc, td) d9 (sa, sb, sc, sd) (mk ||| 2 ^ i) b9) (by omega) (by omega) (by rw [hq]; show _ = skS _ _ _ _ _; unfold skS; rw [← hq1, ← hq2, if_pos c_115, if_neg (not_not_intro c_95)]) _  (X6) (F6) (l6) _ _ hM hS _ (lv_sub hl [1, 2, 3, 4, 5, 6, 0] rfl)
              · rw [zb_0] at c_95
                rw [decide_eq_false_iff_not] at c_95
                refine lv_aload_n hx hb dX2_seek_98 rfl (lv_at hl 0 rfl) ?_
                refine lv_aload hx hb dX2_seek_99 (lv_at hl 4 rfl) ?_
                refine lv_iload_n hx hb dX2_seek_101 rfl (lv_at hl 2 rfl) ?_
                refine lv_iconst (v := 1) hx hb dX2_seek_102 (by decide) ?_
                refine lv_iadd hx hb dX2_seek_103 ?_
                rw [show (nI L) + 1 = nI (L + 1) from nI_add _ _]
                refine lv_iload_n hx hb dX2_seek_104 rfl (lv_at hl 3 rfl) ?_
                refine mq_callv (va_runS (As := [.ref x, .ref (er L), .int (nI (L + 1)), .int (nI mk)]) (rest := []) ⟨hx, hb, hml, hown, hts⟩ (IH d9 hd9.symm l G A g86 (L + 1) x rA bA so (er L) b9 mk er eb pa pb pc_ pd ta tb tc td) (va_cwS 4 hts gX2_seek_X2_seek rfl rfl rfl (by decide +kernel) ⟨by show (5 + d9) + 1 ≤ (5 + d); omega, by show 8 + (7 + 11) + (100 + 26 * d9) ≤ (100 + 26 * d); omega⟩) (mq_preS hK hZ hS hA hM (⟨X4, hD, h_19, h_18, fun k k1 k2 => ⟨fun w => absurd ((hD L k hL3 k2).1 w) (by omega), (hD L k hL3 k2).2.2⟩, hsn, hmk, hb9, by omega⟩) _) rfl rfl hl.1 rfl (lv_room (Nat.le_of_ble_eq_true rfl)) dX2_seek_105 ⟨Nat.le_of_ble_eq_true rfl, Nat.le_of_ble_eq_true rfl⟩) hS (fun g105 H locs p105 hM hS => ?_)
                refine W.widen (k := 0) (n := 0) (Nat.le_of_ble_eq_true rfl) (Nat.le_of_ble_eq_true rfl) ?_
                obtain ⟨X5, F5⟩ := id p105
                have F5 := xpF_up F4 F5
                have l5 := sk_lt (ta, tb, tc, td) d9 (pa, pb, pc_, pd) mk b9 hmk hb9
                have y1 := X5.1
                have y2 : g105 (er L) = some (cEq (pa, pb, pc_, pd)) := by rw [(p105.2 (er L) (mq_neO h_19 h_16 (by decide)) (fun k k1 k2 => ⟨fun w => absurd ((hD L k hL3 k2).1 w) (by omega), (hD L k hL3 k2).2.2⟩))]; exact h_19
                have y3 : g105 (eb L) = some (cEq (sa, sb, sc, sd)) := by rw [(p105.2 (eb L) (mq_neO h_20 h_16 (by decide)) (fun k k1 k2 => ⟨((hD k L k2 hL3).2.2).symm, fun w => absurd ((hD L k hL3 k2).2.1 w) (by omega)⟩))]; exact h_20
                have y4 : g105 so = some (cEq (ta, tb, tc, td)) := by rw [(p105.2 so (mq_neO h_18 h_16 (by decide)) (fun k k1 k2 => hsn k k2))]; exact h_18
                refine lv_aload hx hb dX2_seek_108 (lv_at hl 5 rfl) ?_
                refine lv_aload hx hb dX2_seek_110 (lv_at hl 4 rfl) ?_
                refine mq_calli (va_runV (As := [.ref (er L)]) (rest := []) ⟨hx, hb, hml, hown, hts⟩ (c_X0_isSameAs l G A g105 (eb L) (er L) sa sb sc sd pa pb pc_ pd) (cwV 1 hts gX2_seek_X0_isSameAs rfl rfl rfl (by decide +kernel) ⟨by show 0 + 1 ≤ (5 + d); omega, by show 8 + (2 + 11) + 0 ≤ (100 + 26 * d); omega⟩) (mq_preV hK hZ hS hA hM (q := (RX0, TX0, 4)) y3 rfl (⟨y3, y2⟩) _) rfl rfl hl.1 rfl (lv_room (Nat.le_of_ble_eq_true rfl)) dX2_seek_112 ⟨Nat.le_of_ble_eq_true rfl, Nat.le_of_ble_eq_true rfl⟩) hS (fun r112 g112 H locs p112 hM hS => ?_)
                refine W.widen (k := 0) (n := 0) (Nat.le_of_ble_eq_true rfl) (Nat.le_of_ble_eq_true rfl) ?_
                obtain ⟨rfl, rfl⟩ := p112
                refine lv_if_ne (tgt := 133) hx hb dX2_seek_115 (by decide) (fun c_115 => ?_) (fun c_115 => ?_)
                · rw [zb_n0] at c_115
                  rw [decide_eq_true_eq] at c_115
                  refine lv_iinc (v := nI (i + 1)) (lv' := [(6, .int (nI (i + 1))), (0, .ref x), (1, .ref h), (2, .int (nI L)), (3, .int (nI mk)), (4, .ref (er L)), (5, .ref (eb L))]) hx hb dX2_seek_133 hl (k := 6) rfl (nI_add _ _) (by decide) rfl (fun ls hl => ?_)
                  refine lv_goto (tgt := 55) hx hb dX2_seek_136 (by decide) ?_
                  exact ih55 (i + 1) (sk (ta, tb, tc, td) d9 (pa, pb, pc_, pd) mk b9) (by omega) (by omega) (by rw [hq]; show _ = skS _ _ _ _ _; unfold skS; rw [← hq1, ← hq2, if_neg (not_not_intro c_115), if_pos c_95]) _  (X5) (F5) (l5) _ _ hM hS _ (lv_sub hl [1, 2, 3, 4, 5, 6, 0] rfl)
                · rw [zb_0] at c_115
                  rw [decide_eq_false_iff_not] at c_115
                  refine lv_aload_n hx hb dX2_seek_118 rfl (lv_at hl 0 rfl) ?_
                  refine lv_aload hx hb dX2_seek_119 (lv_at hl 5 rfl) ?_
                  refine lv_iload_n hx hb dX2_seek_121 rfl (lv_at hl 2 rfl) ?_
                  refine lv_iconst (v := 1) hx hb dX2_seek_122 (by decide) ?_
                  refine lv_iadd hx hb dX2_seek_123 ?_
                  rw [show (nI L) + 1 = nI (L + 1) from nI_add _ _]
                  refine lv_iload_n hx hb dX2_seek_124 rfl (lv_at hl 3 rfl) ?_
                  refine lv_iconst (v := 1) hx hb dX2_seek_125 (by decide) ?_
                  refine lv_iload hx hb dX2_seek_126 (lv_at hl 6 rfl) ?_
                  refine lv_ishl hx hb dX2_seek_128 ?_
                  rw [show 1 <<< ((nI i) &&& 31) = nI (2 ^ i) from dw_shl _ (by omega)]
                  refine lv_ior hx hb dX2_seek_129 ?_
                  rw [show (nI mk) ||| (nI (2 ^ i)) = nI (mk ||| 2 ^ i) from or_nI _ _]
                  refine mq_callv (va_runS (As := [.ref x, .ref (eb L), .int (nI (L + 1)), .int (nI (mk ||| 2 ^ i))]) (rest := []) ⟨hx, hb, hml, hown, hts⟩ (IH d9 hd9.symm l G A g105 (L + 1) x rA bA so (eb L) (sk (ta, tb, tc, td) d9 (pa, pb, pc_, pd) mk b9) (mk ||| 2 ^ i) er eb sa sb sc sd ta tb tc td) (va_cwS 4 hts gX2_seek_X2_seek rfl rfl rfl (by decide +kernel) ⟨by show (5 + d9) + 1 ≤ (5 + d); omega, by show 8 + (7 + 11) + (100 + 26 * d9) ≤ (100 + 26 * d); omega⟩) (mq_preS hK hZ hS hA hM (⟨X5, hD, y3, y4, fun k k1 k2 => ⟨((hD k L k2 hL3).2.2).symm, fun w => absurd ((hD L k hL3 k2).2.1 w) (by omega)⟩, hsn, or_lt32 hmk (by omega), l5, by omega⟩) _) rfl rfl hl.1 rfl (lv_room (Nat.le_of_ble_eq_true rfl)) dX2_seek_130 ⟨Nat.le_of_ble_eq_true rfl, Nat.le_of_ble_eq_true rfl⟩) hS (fun g130 H locs p130 hM hS => ?_)
                  refine W.widen (k := 0) (n := 0) (Nat.le_of_ble_eq_true rfl) (Nat.le_of_ble_eq_true rfl) ?_
                  obtain ⟨X6, F6⟩ := p130
                  have F6 := xpF_up F5 F6
                  have l6 := sk_lt (ta, tb, tc, td) d9 (sa, sb, sc, sd) (mk ||| 2 ^ i) (sk (ta, tb, tc, td) d9 (pa, pb, pc_, pd) mk b9) (or_lt32 hmk (by omega)) l5
                  refine lv_iinc (v := nI (i + 1)) (lv' := [(6, .int (nI (i + 1))), (0, .ref x), (1, .ref h), (2, .int (nI L)), (3, .int (nI mk)), (4, .ref (er L)), (5, .ref (eb L))]) hx hb dX2_seek_133 hl (k := 6) rfl (nI_add _ _) (by decide) rfl (fun ls hl => ?_)
                  refine lv_goto (tgt := 55) hx hb dX2_seek_136 (by decide) ?_
                  exact ih55 (i + 1) (sk (ta, tb, tc, td) d9 (sa, sb, sc, sd) (mk ||| 2 ^ i) (sk (ta, tb, tc, td) d9 (pa, pb, pc_, pd) mk b9)) (by omega) (by omega) (by rw [hq]; show _ = skS _ _ _ _ _; unfold skS; rw [← hq1, ← hq2, if_pos c_115, if_pos c_95]) _  (X6) (F6) (l6) _ _ hM hS _ (lv_sub hl [1, 2, 3, 4, 5, 6, 0] rfl)
        exact K55 _ 0 b (Nat.lt_succ_self _) (Nat.zero_le _) (rfl) _  (⟨x1, x2, x3, x4⟩) (xpF_refl) (hb0) _ _ hM hS _ (lv_sub hl [3, 4, 5, 6, 2, 1, 0] rfl)
      · replace c_32 : ¬ nI L < nI 3 := c_32
        rw [nI_ltI (by omega) (by omega)] at c_32
        obtain rfl : d = 0 := by omega
        exact mq_vret hx hb hr hlocks hM hS (⟨⟨by rw [show sk (ta, tb, tc, td) 0 (ea, ebb, ec, ed) mk b = b from by simp [sk, c_5, c_17]]; exact x1, x2, x3, x4⟩, xpF_refl⟩) dX2_seek_35
    · rw [zb_n0] at c_17
      rw [decide_eq_true_eq] at c_17
      refine lv_aload_n hx hb dX2_seek_20 rfl (lv_at hl 0 rfl) ?_
      refine lv_iload_n hx hb dX2_seek_21 rfl (lv_at hl 3 rfl) ?_
      refine mq_put (ci := 7) (v := .int (nI mk)) (ty := .int) (C := RX2) (T := TX2) (N := 4) (fs' := [.ref rA, .ref bA, .ref so, .int (nI mk)]) hx hb hts nX2 tyX2 tyX2_ok nmX2 hown hK hM hS x1 rfl 3 (by decide) w3 (fun _ h9 => h9) rfl (by decide +kernel) rfl rfl (Nat.le_of_ble_eq_true rfl) dX2_seek_22 rfl (fun f_25 H locs e_26 hM hS => ?_)
      have h_27 : f_25 rA = some (.inl (G.2 3, 3, .inr (.inr (.inr (.inr (rf_of 3 er)))))) := mq_n e_26 x2 (mq_neB x2 x1)
      have h_28 : f_25 bA = some (.inl (G.2 3, 3, .inr (.inr (.inr (.inr (rf_of 3 eb)))))) := mq_n e_26 x3 (mq_neB x3 x1)
      have h_29 : f_25 h = some (.inr (5, [.int ea, .int ebb, .int ec, .int ed])) := mq_n e_26 hh0 (mq_neO hh0 x1 (by decide))
      have h_30 : f_25 so = some (.inr (5, [.int ta, .int tb, .int tc, .int td])) := mq_n e_26 hso0 (mq_neO hso0 x1 (by decide))
      have h_31 : f_25 x = some (.inr (7, [.ref rA, .ref bA, .ref so, .int (nI mk)])) := mq_s e_26
      exact mq_vret hx hb hr hlocks hM hS (⟨xp_putX ⟨x1, x2, x3, x4⟩ (by rw [e_26, show sk (ta, tb, tc, td) d (ea, ebb, ec, ed) mk b = mk + 1 from by cases d <;> simp [sk, c_5, c_17], ← du_S]; rfl), xpF_x xpF_refl e_26⟩) dX2_seek_25
  · rw [zb_0] at c_5
    exact mq_vret hx hb hr hlocks hM hS (⟨⟨by rw [show sk (ta, tb, tc, td) d (ea, ebb, ec, ed) mk b = b from by cases d <;> simp [sk, c_5]]; exact x1, x2, x3, x4⟩, xpF_refl⟩) dX2_seek_8

theorem c_X2_seek : ∀ (d : Nat) (l : Launch) (G : mq_G) (A : Nat → Prop) (f : mq_F) (L : Nat) (x rA bA so h b mk : Nat) (er eb : Nat → Nat) (ea ebb ec ed ta tb tc td : Int32), Met l yX2_seek wsX2_seek ({ frames := (5 + d), cells := 0, slots := 0, locals := (100 + 26 * d) } : Room) (mq_Pc G A f (xpC G f x rA bA (some so) er eb b ∧ xpD er eb ∧ f h = some (cEq (ea, ebb, ec, ed)) ∧ f so = some (cEq (ta, tb, tc, td)) ∧ (∀ k, L ≤ k → k < 3 → h ≠ er k ∧ h ≠ eb k) ∧ (∀ k, k < 3 → so ≠ er k ∧ so ≠ eb k) ∧ mk < 32 ∧ b < 33 ∧ L + d = 3) [.ref x, .ref h, .int (nI L), .int (nI mk)]) (mq_Qv G A (fun g => xpC G g x rA bA (some so) er eb (sk (ta, tb, tc, td) d (ea, ebb, ec, ed) mk b) ∧ xpF f g x er eb L)) 0 0 A := by
  intro d
  induction d with
  | zero => exact fun l G A f L => c_X2_seek_open l G A f 0 L (fun d9 h => absurd h (by omega))
  | succ d ih =>
    refine fun l G A f L => c_X2_seek_open l G A f (d + 1) L ?_
    intro d9 h
    obtain rfl : d9 = d := by omega
    exact ih

set_option maxHeartbeats 4000000 in
set_option maxRecDepth 100000 in
theorem c_X2_explanationOf (l : Launch) (G : mq_G) (A : Nat → Prop) (f : mq_F) (x w rA bA h ta9 b : Nat) (so : Option Nat) (er eb : Nat → Nat) (ea ebb ec ed ta tb tc td : Int32) : Met l yX2_explanationOf wsX2_explanationOf ({ frames := 9, cells := 0, slots := 0, locals := 204 } : Room) (mq_Pc G A f (xpC G f x rA bA so er eb b ∧ xpD er eb ∧ f w = some (.inr (11, [.ref h, .ref ta9])) ∧ f h = some (cEq (ea, ebb, ec, ed)) ∧ f ta9 = some (cEq (ta, tb, tc, td)) ∧ (∀ k, k < 3 → h ≠ er k ∧ h ≠ eb k) ∧ ∀ k, k < 3 → ta9 ≠ er k ∧ ta9 ≠ eb k) [.ref x, .ref w]) (mq_Qi G A (fun r g => r = du (sk (ta, tb, tc, td) 3 (ea, ebb, ec, ed) 0 0) ∧ xpC G g x rA bA (some ta9) er eb (sk (ta, tb, tc, td) 3 (ea, ebb, ec, ed) 0 0) ∧ xpF f g x er eb 0)) 0 0 A := by
  refine Met.ofW (cc := cX2_explanationOf) (maxL := 2) (ret := (some .int)) (by decide) rfl ?_
  intro p e s m args below meth c s₁ B hml hv
  obtain ⟨rfl, ⟨hK, hZ, hM, hA⟩, hp⟩ := hv
  have hx := B.exec
  have hb := B.bytes
  have hr := B.returns
  have hts := atoms_spec (ws := wsX2_explanationOf) B.pre
  have hown : s.vm.findClass RX2 = some m.cls := findClass_of_methodNamed B.named
  have hlocks := B.notSynchronized
  have hS : va_S A s.heap s.heap [] := va_S.rf
  have hl := lv_entry ([.ref x, .ref w]) (n := 2) (Nat.le_of_ble_eq_true rfl)
  rw [lg_entry_eq]
  generalize (lg_sl ([.ref x, .ref w]) ++ List.replicate (2 - (lg_sl ([.ref x, .ref w])).length) Slot.unset).toArray = ls at hl ⊢
  have hl : lv_has ls 2 [(0, .ref x), (1, .ref w)] := hl
  have w0 := hts (.fieldLink RX2 23 "Tutorlight$WrongStep" "told" "LTutorlight$Equation;") (List.mem_of_getElem? (i := 1) rfl)
  have w1 := hts (.fieldLink RX2 29 "Tutorlight$Explainer" "sought" "LTutorlight$Equation;") (List.mem_of_getElem? (i := 2) rfl)
  have w2 := hts (.fieldLink RX2 32 "Tutorlight$Explainer" "best" "I") (List.mem_of_getElem? (i := 3) rfl)
  have w3 := hts (.fieldLink RX2 36 "Tutorlight$WrongStep" "had" "LTutorlight$Equation;") (List.mem_of_getElem? (i := 4) rfl)
  have nX6 : ∀ w ∈ wsX60, w ∈ wsX2_explanationOf := fun _ h => List.mem_cons_of_mem _ (List.mem_append_left _ (List.mem_append_left _ (List.mem_append_left _ (List.mem_append_right _ h))))
  have nX2 : ∀ w ∈ wsX20, w ∈ wsX2_explanationOf := fun _ h => List.mem_cons_of_mem _ (List.mem_append_left _ (List.mem_append_left _ (List.mem_append_right _ h)))
  obtain ⟨hX0, hD, hw, hh0, hso0, hhn, hsn⟩ := hp
  obtain ⟨x1, x2, x3, x4⟩ := id hX0
  refine lv_aload_n hx hb dX2_explanationOf_0 rfl (lv_at hl 0 rfl) ?_
  refine lv_aload_n hx hb dX2_explanationOf_1 rfl (lv_at hl 1 rfl) ?_
  refine mq_get (ci := 11) (v := .ref ta9) (C := RX6) (T := TX6) (N := 2) hx hb hts nX6 hown hK hM hw rfl 1 (by decide) w0 (fun _ h9 => h9) rfl dX2_explanationOf_2 ?_
  refine mq_put (ci := 7) (v := .ref ta9) (ty := .object "Tutorlight$Equation") (C := RX2) (T := TX2) (N := 4) (fs' := [.ref rA, .ref bA, .ref ta9, .int (du b)]) hx hb hts nX2 tyX2 tyX2_ok nmX2 hown hK hM hS x1 rfl 2 (by decide) w1 (fun _ h9 => h9) rfl (by decide +kernel) rfl rfl (Nat.le_of_ble_eq_true rfl) dX2_explanationOf_5 rfl (fun f_1 H locs e_2 hM hS => ?_)
  have h_3 : f_1 w = some (.inr (11, [.ref h, .ref ta9])) := mq_n e_2 hw (mq_neO hw x1 (by decide))
  have h_4 : f_1 h = some (.inr (5, [.int ea, .int ebb, .int ec, .int ed])) := mq_n e_2 hh0 (mq_neO hh0 x1 (by decide))
  have h_5 : f_1 ta9 = some (.inr (5, [.int ta, .int tb, .int tc, .int td])) := mq_n e_2 hso0 (mq_neO hso0 x1 (by decide))
  have h_6 : f_1 x = some (.inr (7, [.ref rA, .ref bA, .ref ta9, .int (du b)])) := mq_s e_2
  refine lv_aload_n hx hb dX2_explanationOf_8 rfl (lv_at hl 0 rfl) ?_
  refine lv_iconst (v := (-1)) hx hb dX2_explanationOf_9 (by decide) ?_
  refine mq_put (ci := 7) (v := .int (-1)) (ty := .int) (C := RX2) (T := TX2) (N := 4) (fs' := [.ref rA, .ref bA, .ref ta9, .int (-1)]) hx hb hts nX2 tyX2 tyX2_ok nmX2 hown hK hM hS h_6 rfl 3 (by decide) w2 (fun _ h9 => h9) rfl (by decide +kernel) rfl rfl (Nat.le_of_ble_eq_true rfl) dX2_explanationOf_10 rfl (fun f_7 H locs e_8 hM hS => ?_)
  have h_9 : f_7 w = some (.inr (11, [.ref h, .ref ta9])) := mq_n e_8 h_3 (mq_neO h_3 h_6 (by decide))
  have h_10 : f_7 h = some (.inr (5, [.int ea, .int ebb, .int ec, .int ed])) := mq_n e_8 h_4 (mq_neO h_4 h_6 (by decide))
  have h_11 : f_7 ta9 = some (.inr (5, [.int ta, .int tb, .int tc, .int td])) := mq_n e_8 h_5 (mq_neO h_5 h_6 (by decide))
  have h_12 : f_7 x = some (.inr (7, [.ref rA, .ref bA, .ref ta9, .int (-1)])) := mq_s e_8
  have X2 : xpC G f_7 x rA bA (some ta9) er eb 0 := xp_putX hX0 (by rw [e_8, e_2, mq_uu]; rfl)
  refine lv_aload_n hx hb dX2_explanationOf_13 rfl (lv_at hl 0 rfl) ?_
  refine lv_aload_n hx hb dX2_explanationOf_14 rfl (lv_at hl 1 rfl) ?_
  refine mq_get (ci := 11) (v := .ref h) (C := RX6) (T := TX6) (N := 2) hx hb hts nX6 hown hK hM h_9 rfl 0 (by decide) w3 (fun _ h9 => h9) rfl dX2_explanationOf_15 ?_
  refine lv_iconst (v := 0) hx hb dX2_explanationOf_18 (by decide) ?_
  refine lv_iconst (v := 0) hx hb dX2_explanationOf_19 (by decide) ?_
  refine mq_callv (va_runS (As := [.ref x, .ref h, .int 0, .int 0]) (rest := []) ⟨hx, hb, hml, hown, hts⟩ (c_X2_seek 3 l G A f_7 0 x rA bA ta9 h 0 0 er eb ea ebb ec ed ta tb tc td) (va_cwS 4 hts gX2_explanationOf_X2_seek rfl rfl rfl (by decide +kernel) ⟨Nat.le_of_ble_eq_true rfl, Nat.le_of_ble_eq_true rfl⟩) (mq_preS hK hZ hS hA hM (⟨X2, hD, h_10, h_11, fun k _ k2 => hhn k k2, hsn, by decide, by decide, rfl⟩) _) rfl rfl hl.1 rfl (lv_room (Nat.le_of_ble_eq_true rfl)) dX2_explanationOf_20 ⟨Nat.le_of_ble_eq_true rfl, Nat.le_of_ble_eq_true rfl⟩) hS (fun g20 H locs p20 hM hS => ?_)
  refine W.widen (k := 0) (n := 0) (Nat.le_of_ble_eq_true rfl) (Nat.le_of_ble_eq_true rfl) ?_
  obtain ⟨X3, F3⟩ := p20
  have F4 : xpF f g20 x er eb 0 := fun y n1 n2 => by rw [F3 y n1 n2, e_8, mq_up_n n1, e_2, mq_up_n n1]
  have y1 := X3.1
  refine lv_aload_n hx hb dX2_explanationOf_23 rfl (lv_at hl 0 rfl) ?_
  refine mq_get (ci := 7) (v := .int (du (sk (ta, tb, tc, td) 3 (ea, ebb, ec, ed) 0 0))) (C := RX2) (T := TX2) (N := 4) hx hb hts nX2 hown hK hM y1 rfl 3 (by decide) w2 (fun _ h9 => h9) rfl dX2_explanationOf_24 ?_
  exact mq_iret (v := du (sk (ta, tb, tc, td) 3 (ea, ebb, ec, ed) 0 0)) hx hb hr hlocks hM hS (⟨rfl, X3, F4⟩) dX2_explanationOf_27
