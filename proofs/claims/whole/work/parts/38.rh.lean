/-! THE REFERENCE: what is due, in its order -/
def mlt (g : Nat → maT) (o k : Nat) : Bool := decide (mDu (g o) < mDu (g k) ∨ mDu (g o) = mDu (g k) ∧ o < k)
theorem mlt_rr {g : Nat → maT} {k : Nat} : mlt g k k = false := decide_eq_false (by omega)
theorem mlt_as {g : Nat → maT} {a b : Nat} (h : mlt g a b = true) : mlt g b a = false := by
  have h1 := of_decide_eq_true h
  exact decide_eq_false (by omega)
theorem getD_l {L : List Nat} {k i : Nat} (h : i < L.length) : (L ++ [k]).getD i 0 = L.getD i 0 := by rw [List.getD_eq_getElem?_getD, List.getD_eq_getElem?_getD, List.getElem?_append_left h]
theorem getD_r {L : List Nat} {k : Nat} : (L ++ [k]).getD L.length 0 = k := by rw [List.getD_eq_getElem?_getD, List.getElem?_append_right (Nat.le_refl _), Nat.sub_self]; rfl
theorem cntB_or {P : Nat → Bool} {n k : Nat} (hk : k < n) (hp : P k = false) : cntB (fun o => P o || decide (o = k)) n = cntB P n + 1 := by
  have h1 := cnt_split (fun o => P o || decide (o = k)) k n
  have h2 := cnt_split P k n
  rw [if_pos ⟨hk, by simp⟩] at h1
  rw [if_neg (by rw [hp]; simp)] at h2
  rw [← h1, ← h2]
  have : cntB (fun o => decide (o ≠ k) && (P o || decide (o = k))) n = cntB (fun o => decide (o ≠ k) && P o) n := cntB_congr fun o _ => by by_cases h : o = k <;> simp [h]
  rw [this]
theorem cntB_lt {P : Nat → Bool} {n k : Nat} (hk : k < n) (hp : P k = false) : cntB P n < n := by
  have h1 := cntB_or hk hp
  have h2 := cntB_le (fun o => P o || decide (o = k)) n
  omega
theorem cntB_none {P : Nat → Bool} : ∀ {n : Nat}, (∀ i, i < n → P i = false) → cntB P n = 0
  | 0, _ => rfl
  | n + 1, h => by rw [cntB_f (h n (Nat.lt_succ_self n)), cntB_none fun i hi => h i (by omega)]
/-- a list of those of P, those ahead first -/
def rkL (g : Nat → maT) (n : Nat) (P : Nat → Bool) (L : List Nat) : Prop := (∀ i, i < L.length → L.getD i 0 < n ∧ P (L.getD i 0) = true ∧ cntB (fun o => P o && mlt g o (L.getD i 0)) n = i) ∧ (∀ o, o < n → P o = true → ∃ i, i < L.length ∧ L.getD i 0 = o) ∧ (∀ a b, a < b → b < L.length → mlt g (L.getD a 0) (L.getD b 0) = true) ∧ L.length = cntB P n
theorem rkL_congr {g : Nat → maT} {n : Nat} {P Q : Nat → Bool} {L : List Nat} (h : rkL g n P L) (hq : ∀ o, o < n → Q o = P o) : rkL g n Q L := by
  obtain ⟨h1, h2, h3, h4⟩ := h
  refine ⟨fun i hi => ⟨(h1 i hi).1, by rw [hq _ (h1 i hi).1]; exact (h1 i hi).2.1, ?_⟩, fun o ho q => h2 o ho (by rw [← hq o ho]; exact q), h3, ?_⟩
  · exact (cntB_congr fun o ho => by rw [hq o ho]).trans (h1 i hi).2.2
  · rw [h4]; exact cntB_congr fun o ho => (hq o ho).symm
theorem rkL_snoc {g : Nat → maT} {n k : Nat} {P : Nat → Bool} {L : List Nat} (h : rkL g n P L) (hk : k < n) (hp : P k = false) (hl : ∀ o, o < n → P o = true → mlt g o k = true) : rkL g n (fun o => P o || decide (o = k)) (L ++ [k]) := by
  obtain ⟨h1, h2, h3, h4⟩ := h
  have hlen : (L ++ [k]).length = L.length + 1 := by simp
  refine ⟨fun i hi => ?_, fun o ho q => ?_, fun a b hab hb => ?_, by rw [hlen, h4, cntB_or hk hp]⟩
  · rw [hlen] at hi
    by_cases hi2 : i < L.length
    · rw [getD_l hi2]
      obtain ⟨e1, e2, e3⟩ := h1 i hi2
      refine ⟨e1, by show (P _ || _) = true; rw [e2]; rfl, (cntB_congr fun o ho => ?_).trans e3⟩
      by_cases ho : o = k
      · subst ho
        dsimp only
        rw [mlt_as (hl _ e1 e2), Bool.and_false, Bool.and_false]
      · dsimp only
        rw [decide_eq_false ho, Bool.or_false]
    · obtain rfl : i = L.length := by omega
      rw [getD_r]
      refine ⟨hk, by simp, (cntB_congr fun o ho => ?_).trans h4.symm⟩
      by_cases hok : o = k
      · subst hok
        dsimp only
        rw [mlt_rr, Bool.and_false, hp]
      · dsimp only
        rw [decide_eq_false hok, Bool.or_false]
        cases hpo : P o with
        | false => rfl
        | true => rw [hl o ho hpo]; rfl
  · rw [Bool.or_eq_true, decide_eq_true_eq] at q
    by_cases hok : o = k
    · exact ⟨L.length, by omega, by rw [getD_r, hok]⟩
    · obtain ⟨i, e1, e2⟩ := h2 o ho (q.elim id fun q => absurd q hok)
      exact ⟨i, by omega, by rw [getD_l e1, e2]⟩
  · rw [hlen] at hb
    rw [getD_l (by omega : a < L.length)]
    by_cases hb2 : b < L.length
    · rw [getD_l hb2]; exact h3 a b hab hb2
    · obtain rfl : b = L.length := by omega
      rw [getD_r]
      exact hl _ (h1 a (by omega)).1 (h1 a (by omega)).2.1
def dqI (S : AT) (j w : Nat) (L : List Nat) : Nat → List Nat
  | 0 => L
  | k + 1 => if mDu (aM S j k) = w then dqI S j w L k ++ [k] else dqI S j w L k
theorem dqI_S {S : AT} {j w k : Nat} {L : List Nat} : dqI S j w L (k + 1) = if mDu (aM S j k) = w then dqI S j w L k ++ [k] else dqI S j w L k := rfl
/-- the skills due up to a day, those due first ahead -/
def dqO (S : AT) (j : Nat) : Nat → List Nat
  | 0 => []
  | w + 1 => dqI S j (w + 1) (dqO S j w) (aN S)
def dqP (S : AT) (j w k : Nat) : Nat → Bool := fun o => decide (mDu (aM S j o) ≠ 0 ∧ mDu (aM S j o) ≤ w) || decide (mDu (aM S j o) = w + 1 ∧ o < k)
theorem dqI_rk {S : AT} {j w : Nat} {L : List Nat} (h : rkL (aM S j) (aN S) (dqP S j w 0) L) : ∀ k, k ≤ aN S → rkL (aM S j) (aN S) (dqP S j w k) (dqI S j (w + 1) L k)
  | 0, _ => h
  | k + 1, hk => by
    have ih := dqI_rk h k (by omega)
    rw [dqI_S]
    by_cases hm : mDu (aM S j k) = w + 1
    · rw [if_pos hm]
      refine rkL_congr (rkL_snoc ih (by omega) ?_ fun o ho hp => ?_) fun o ho => ?_
      · unfold dqP
        rw [decide_eq_false (by omega), decide_eq_false (by omega)]; rfl
      · unfold dqP at hp
        rw [Bool.or_eq_true, decide_eq_true_eq, decide_eq_true_eq] at hp
        exact decide_eq_true (by omega)
      · unfold dqP
        by_cases hok : o = k
        · subst hok
          rw [decide_eq_true (p := o = o) rfl, Bool.or_true, decide_eq_true (p := mDu (aM S j o) = w + 1 ∧ o < o + 1) ⟨hm, by omega⟩, Bool.or_true]
        · rw [decide_eq_false (p := o = k) hok, Bool.or_false]
          congr 1
          exact decide_eq_decide.mpr (by omega)
    · rw [if_neg hm]
      refine rkL_congr ih fun o ho => ?_
      unfold dqP
      congr 1
      refine decide_eq_decide.mpr ?_
      by_cases hok : o = k
      · subst hok
        exact ⟨fun q => absurd q.1 hm, fun q => absurd q.1 hm⟩
      · omega
theorem dqO_rk (S : AT) (j : Nat) : ∀ w, rkL (aM S j) (aN S) (dqP S j w 0) (dqO S j w)
  | 0 => by
    have h0 : ∀ i, i < aN S → dqP S j 0 0 i = false := fun i _ => by
      unfold dqP
      rw [decide_eq_false (by omega), decide_eq_false (by omega)]; rfl
    exact ⟨fun i hi => absurd hi (Nat.not_lt_zero i), fun o ho q => (by rw [h0 o ho] at q; cases q), fun a b _ hb => absurd hb (Nat.not_lt_zero b), (cntB_none h0).symm⟩
  | w + 1 => by
    refine rkL_congr (dqI_rk (dqO_rk S j w) (aN S) (Nat.le_refl _)) fun o ho => ?_
    unfold dqP
    rw [decide_eq_false (p := mDu (aM S j o) = w + 1 + 1 ∧ o < 0) (by omega), Bool.or_false]
    by_cases h1 : mDu (aM S j o) = w + 1
    · rw [decide_eq_true (p := mDu (aM S j o) = w + 1 ∧ o < aN S) ⟨h1, ho⟩, Bool.or_true]
      exact decide_eq_true (by omega)
    · rw [decide_eq_false (p := mDu (aM S j o) = w + 1 ∧ o < aN S) (fun q => h1 q.1), Bool.or_false]
      exact decide_eq_decide.mpr (by omega)
abbrev dqL (S : AT) (j : Nat) : List Nat := dqO S j (aD S + 1)
theorem due_rk (S : AT) (j : Nat) : rkL (aM S j) (aN S) (dueB S j) (dqL S j) := rkL_congr (dqO_rk S j _) fun o _ => by
  unfold dueB dqP
  rw [decide_eq_false (p := mDu (aM S j o) = aD S + 1 + 1 ∧ o < 0) (by omega), Bool.or_false]
theorem rkL_le {g : Nat → maT} {n : Nat} {P : Nat → Bool} {L : List Nat} (h : rkL g n P L) : L.length ≤ n := by rw [h.2.2.2]; exact cntB_le _ _
/-- a list that is made in a call: f0 the map without it -/
def dlP (G : mq_G) (f0 g : mq_F) (x : Nat) (mo : Int32) (k d : Nat) (L : List Nat) : Prop := g x = some (cLs mo (lsD G k d) L.length) ∧ (k ≠ 0 → g d = some (cRf (G.2 8) k (rf_of L.length (fun i => sI G (L.getD i 0 + 128))))) ∧ (k ≠ 0 → f0 d = none) ∧ f0 x = none ∧ (k = 0 ∨ k = 10) ∧ L.length ≤ k ∧ ∀ y e, f0 y = some e → g y = some e
theorem dl_row {G : mq_G} {L : List Nat} {k : Nat} : rf_of (L.length + 1) (fun i => if i = L.length then sI G (k + 128) else sI G (L.getD i 0 + 128)) = rf_of (L ++ [k]).length (fun i => sI G ((L ++ [k]).getD i 0 + 128)) := by
  rw [show (L ++ [k]).length = L.length + 1 by simp]
  funext i
  unfold rf_of
  by_cases hi : i < L.length + 1
  · rw [if_pos hi, if_pos hi]
    by_cases h2 : i = L.length
    · subst h2
      dsimp only
      rw [if_pos rfl, getD_r]
    · dsimp only
      rw [if_neg h2, getD_l (by omega)]
  · rw [if_neg hi, if_neg hi]
theorem no_old {f0 f : mq_F} {q : Nat} (h : ∀ y e, f0 y = some e → f y = some e) (hq : f q = none) : f0 q = none := by
  cases h0 : f0 q with
  | none => rfl
  | some e => rw [h q e h0] at hq; cases hq
theorem dlP.add {G : mq_G} {f0 f g : mq_F} {x : Nat} {mo mo' : Int32} {k d i : Nat} {L : List Nat} (h : dlP G f0 f x mo k d L) (hn : L.length < 10) (ha : addP G f g x (sI G (i + 128)) mo' k d L.length (fun t => sI G (L.getD t 0 + 128))) : ∃ k' d', dlP G f0 g x mo' k' d' (L ++ [i]) := by
  obtain ⟨h1, h2, h3, h4, h5, h6, h7⟩ := h
  have hlen : (L ++ [i]).length = L.length + 1 := by simp
  unfold addP at ha
  rw [dl_row] at ha
  rw [← hlen] at ha
  rcases ha with ⟨hk, hg⟩ | ⟨hk, q, hq, hg⟩
  · have hk0 : k ≠ 0 := by omega
    have hdx : d ≠ x := mq_neB (h2 hk0) h1
    refine ⟨k, d, by rw [lsD_1 hk0]; exact mq_s hg, fun _ => ?_, h3, h4, h5, by omega, fun y e he => ?_⟩
    · rw [hg, mq_up_n hdx]; exact mq_up_s
    · have n1 : y ≠ x := mq_neN he h4
      have n2 : y ≠ d := mq_neN he (h3 hk0)
      rw [hg, mq_up_n n1, mq_up_n n2]; exact h7 y e he
  · have hk0 : k = 0 := by omega
    have hL : nc k = 10 := by rw [hk0]; rfl
    rw [hL] at hg
    have hqx : q ≠ x := fun w => by subst w; rw [h1] at hq; cases hq
    have hq0 := no_old h7 hq
    refine ⟨10, q, by rw [lsD_1 (by decide)]; exact mq_s hg, fun _ => ?_, fun _ => hq0, h4, Or.inr rfl, by omega, fun y e he => ?_⟩
    · rw [hg, mq_up_n hqx]; exact mq_up_s
    · have n1 : y ≠ x := mq_neN he h4
      have n2 : y ≠ q := mq_neN he hq0
      rw [hg, mq_up_n n1, mq_up_n n2]; exact h7 y e he

set_option maxHeartbeats 4000000 in
set_option maxRecDepth 100000 in
theorem c_X11_dueNow (l : Launch) (G : mq_G) (A : Nat → Prop) (f : mq_F) (ad : AD) (S : AT) (X : CX) (S2 : AT) (Y : MX) (O : OX) (T : Nat) (j : Nat) : Met l yX11_dueNow wsX11_dueNow ({ frames := 11, cells := 11, slots := 103, locals := 206 } : Room) (mq_Pc G A f (WR G f ad S X S2 Y O ∧ mOK S2 Y T ∧ j < aL S2) [.ref (ad 20 0 0), .int (nI j)]) (mq_Qq G A (fun r g => ∃ x mo k d, r = some x ∧ dlP G f g x mo k d (dqL S2 j))) 11 103 A := by
  refine Met.ofW (cc := cX11_dueNow) (maxL := 5) (ret := (some (.object "java/util/ArrayList"))) (by decide) rfl ?_
  intro p e s m args below meth c s₁ B hml hv
  obtain ⟨rfl, ⟨hK, hZ, hM, hA⟩, hp⟩ := hv
  have hx := B.exec
  have hb := B.bytes
  have hr := B.returns
  have hts := atoms_spec (ws := wsX11_dueNow) B.pre
  have hown : s.vm.findClass RX11 = some m.cls := findClass_of_methodNamed B.named
  have hlocks := B.notSynchronized
  have hS : va_S A s.heap s.heap [] := va_S.rf
  have hl := lv_entry ([.ref (ad 20 0 0), .int (nI j)]) (n := 5) (Nat.le_of_ble_eq_true rfl)
  rw [lg_entry_eq]
  generalize (lg_sl ([.ref (ad 20 0 0), .int (nI j)]) ++ List.replicate (5 - (lg_sl ([.ref (ad 20 0 0), .int (nI j)])).length) Slot.unset).toArray = ls at hl ⊢
  have hl : lv_has ls 5 [(0, .ref (ad 20 0 0)), (1, .int (nI j))] := hl
  have w0 := hts (.classLink RX11 7 RJx4a65c) (List.mem_of_getElem? (i := 1) rfl)
  have w1 := hts (.instantiable RJx4a65c 3) (List.mem_of_getElem? (i := 2) rfl)
  have w2 := hts (.initialized RJx4a65c) (List.mem_of_getElem? (i := 3) rfl)
  have w3 := hts (.methodLink RX11 9 yJx4a65c_init_da8c8) (List.mem_of_getElem? (i := 7) rfl)
  have w4 := hts (.instanceMethod yJx4a65c_init_da8c8) (List.mem_of_getElem? (i := 8) rfl)
  have w5 := hts (.fieldLink RX11 123 "TutorlightModel" "day" "I") (List.mem_of_getElem? (i := 4) rfl)
  have w6 := hts (.fieldLink RX11 10 "TutorlightModel" "skills" "Ljava/util/ArrayList;") (List.mem_of_getElem? (i := 5) rfl)
  have w7 := hts (.fieldLink RX11 107 "TutorlightModel$Known" "due" "I") (List.mem_of_getElem? (i := 6) rfl)
  have nJx4a65c : ∀ w ∈ wsJx4a65c0, w ∈ wsX11_dueNow := fun _ h => List.mem_cons_of_mem _ (List.mem_append_left _ (List.mem_append_left _ (List.mem_append_left _ (List.mem_append_left _ (List.mem_append_right _ h)))))
  have nX11 : ∀ w ∈ wsX110, w ∈ wsX11_dueNow := fun _ h => List.mem_cons_of_mem _ (List.mem_append_left _ (List.mem_append_left _ (List.mem_append_left _ (List.mem_append_right _ h))))
  have nX8 : ∀ w ∈ wsX80, w ∈ wsX11_dueNow := fun _ h => List.mem_cons_of_mem _ (List.mem_append_left _ (List.mem_append_left _ (List.mem_append_right _ h)))
  obtain ⟨hR, hO, hj⟩ := hp
  obtain ⟨⟨X9, ⟨hn, hl4, hd2, hT⟩, hsk, hma, hdc, hle, -⟩, ⟨hns, hnc⟩, ⟨hls, hlc⟩, hac, hmc⟩ := id hO
  have y20_224 := hR.1 _ _ _ _ (t20)
  refine mq_new (ci := 4) (fs := [.int 0, .null, .int 0]) (C := RJx4a65c) (T := TJx4a65c) (N := 3) hx hb hts nJx4a65c tyJx4a65c tyJx4a65c_ok hown w0 w1 w2 hK hM hS hA rfl (fun j hj => by rcases (show j = 0 ∨ j = 1 ∨ j = 2 by omega) with rfl | rfl | rfl <;> rfl) (Nat.le_of_ble_eq_true rfl) (Nat.le_of_ble_eq_true rfl) dX11_dueNow_0 (fun q0 f_1 H hq0 e_2 hM hS => ?_)
  refine W.widen (k := 1) (n := 3) (Nat.le_of_ble_eq_true rfl) (Nat.le_of_ble_eq_true rfl) ?_
  have h_3 : f_1 (ad 20 0 0) = some (.inr (16, [.int (yT Y), .int (nI (aD S2)), .ref (ad 21 0 0), .ref (ad 23 0 0)])) := mq_n e_2 y20_224 (mq_neN y20_224 hq0)
  have h_4 : f_1 q0 = some (.inr (4, [.int 0, .null, .int 0])) := mq_s e_2
  refine lv_dup hx hb dX11_dueNow_3 rfl ?_
  refine mq_callv (va_runI (As := []) (rest := [.ref q0]) ⟨hx, hb, hml, hown, hts⟩ (c_Jx4a65c_init_da8c8 l G A f_1 q0) (cwI 0 hts gX11_dueNow_Jx4a65c_init_da8c8 rfl rfl rfl w2 w3 w4 rfl (by decide +kernel) ⟨Nat.le_of_ble_eq_true rfl, Nat.le_of_ble_eq_true rfl⟩) (mq_preS hK hZ hS hA hM (h_4) _) rfl rfl hl.1 rfl (lv_room (Nat.le_of_ble_eq_true rfl)) dX11_dueNow_4 ⟨Nat.le_of_ble_eq_true rfl, Nat.le_of_ble_eq_true rfl⟩) hS (fun g4 H locs p4 hM hS => ?_)
  refine W.widen (k := 1) (n := 3) (Nat.le_of_ble_eq_true rfl) (Nat.le_of_ble_eq_true rfl) ?_
  have h_5 : g4 (ad 20 0 0) = some (.inr (16, [.int (yT Y), .int (nI (aD S2)), .ref (ad 21 0 0), .ref (ad 23 0 0)])) := mq_n p4 h_3 (mq_neN y20_224 hq0)
  have h_6 : g4 q0 = some (.inr (4, [.int 0, .ref (sE G), .int (nI 0)])) := mq_s p4
  refine lv_astore_n (lv' := [(2, .ref q0), (0, .ref (ad 20 0 0)), (1, .int (nI j))]) hx hb dX11_dueNow_7 rfl hl (by decide) rfl (fun ls hl => ?_)
  refine lv_iconst (v := 0) hx hb dX11_dueNow_8 (by decide) ?_
  refine lv_istore_n (lv' := [(3, .int 0), (2, .ref q0), (0, .ref (ad 20 0 0)), (1, .int (nI j))]) hx hb dX11_dueNow_9 rfl hl (by decide) rfl (fun ls hl => ?_)
  have K10 : ∀ (n9 : Nat) (w : Nat) (mo9 : Int32) (kk9 d9 : Nat) (L9 : List Nat), (aD S2 + 1 - w) < n9 → (w ≤ aD S2 + 1) → (L9 = dqO S2 j w) → ∀ (f9 : mq_F), (dlP G f f9 q0 mo9 kk9 d9 L9) → ∀ (H : Heap) (locs : List Loc), mq_W G.1 A f9 H → va_S A s.heap H locs → ∀ (ls : Array Slot), lv_has ls 5 [(0, .ref (ad 20 0 0)), (1, .int (nI j)), (2, .ref q0), (3, .int (nI w))] → W p l e (headSpec wsX11_dueNow ({ frames := 11, cells := 11, slots := 103, locals := 206 } : Room)).room s m ([.ref (ad 20 0 0), .int (nI j)] : List Value).toArray below meth c H locs ((L9.length + 1)) ((10 * L9.length + 3)) (MQ below (mq_Qq G A (fun r g => ∃ x mo k d, r = some x ∧ dlP G f g x mo k d (dqL S2 j))) ([.ref (ad 20 0 0), .int (nI j)] : List Value).toArray s 11 103 A) (F0 m 10 ls []) := by
    intro n9
    induction n9 with
    | zero => intro w mo9 kk9 d9 L9 hn9; exact absurd hn9 (Nat.not_lt_zero _)
    | succ n9 ih10 =>
      intro w mo9 kk9 d9 L9 hn9 hw hL9 f9 hd9 H locs hM hS ls hl
      have hR9 := RR.mono hR hd9.2.2.2.2.2.2
      have y20_219 := hR9.1 _ _ _ _ (t20)
      have y21_220 := hR9.1 _ _ _ _ (t21)
      refine lv_iload_n hx hb dX11_dueNow_10 rfl (lv_at hl 3 rfl) ?_
      refine lv_aload_n hx hb dX11_dueNow_11 rfl (lv_at hl 0 rfl) ?_
      refine mq_get (ci := 16) (v := .int (nI (aD S2))) (C := RX11) (T := TX11) (N := 4) hx hb hts nX11 hown hK hM y20_219 rfl 1 (by decide) w5 (fun _ h9 => h9) rfl dX11_dueNow_12 ?_
      refine lv_icmp_gt (tgt := 69) hx hb dX11_dueNow_15 (by decide) (fun c_15 => ?_) (fun c_15 => ?_)
      · replace c_15 : nI (aD S2) < nI w := c_15
        rw [nI_ltI (by omega) (by omega)] at c_15
        have hln : L9.length ≤ 10 := by rw [hL9]; have := rkL_le (dqO_rk S2 j w); omega
        refine lv_aload_n hx hb dX11_dueNow_69 rfl (lv_at hl 2 rfl) ?_
        refine W.widen (k := 11) (n := 103) (by omega) (by omega) ?_
        exact mq_aret (r := some q0) rfl hx hb hr (Or.inl ⟨_, rfl⟩) hlocks hM hS (⟨q0, mo9, kk9, d9, rfl, by rw [show dqL S2 j = L9 by rw [hL9, show w = aD S2 + 1 by omega]]; exact hd9⟩) dX11_dueNow_70
      · replace c_15 : ¬ nI (aD S2) < nI w := c_15
        rw [nI_ltI (by omega) (by omega)] at c_15
        refine lv_iconst (v := 0) hx hb dX11_dueNow_18 (by decide) ?_
        refine lv_istore (lv' := [(4, .int 0), (0, .ref (ad 20 0 0)), (1, .int (nI j)), (2, .ref q0), (3, .int (nI w))]) hx hb dX11_dueNow_19 hl (by decide) rfl (fun ls hl => ?_)
        have K21 : ∀ (n9 : Nat) (i : Nat) (mo8 : Int32) (kk8 d8 : Nat) (L8 : List Nat), (aN S2 - i) < n9 → (i ≤ aN S2) → (L8 = dqI S2 j (w + 1) L9 i) → ∀ (f8 : mq_F), (dlP G f f8 q0 mo8 kk8 d8 L8) → ∀ (H : Heap) (locs : List Loc), mq_W G.1 A f8 H → va_S A s.heap H locs → ∀ (ls : Array Slot), lv_has ls 5 [(0, .ref (ad 20 0 0)), (1, .int (nI j)), (2, .ref q0), (3, .int (nI w)), (4, .int (nI i))] → W p l e (headSpec wsX11_dueNow ({ frames := 11, cells := 11, slots := 103, locals := 206 } : Room)).room s m ([.ref (ad 20 0 0), .int (nI j)] : List Value).toArray below meth c H locs ((L8.length + 1)) ((10 * L8.length + 3)) (MQ below (mq_Qq G A (fun r g => ∃ x mo k d, r = some x ∧ dlP G f g x mo k d (dqL S2 j))) ([.ref (ad 20 0 0), .int (nI j)] : List Value).toArray s 11 103 A) (F0 m 21 ls []) := by
          intro n9
          induction n9 with
          | zero => intro i mo8 kk8 d8 L8 hn9; exact absurd hn9 (Nat.not_lt_zero _)
          | succ n9 ih21 =>
            intro i mo8 kk8 d8 L8 hn9 hi hL8 f8 hd8 H locs hM hS ls hl
            have hR8 := RR.mono hR hd8.2.2.2.2.2.2
            have hlb8 : L8.length ≤ 10 := by rw [hL8, hL9]; have := rkL_le (dqI_rk (dqO_rk S2 j w) i hi); omega
            have y20_222 := hR8.1 _ _ _ _ (t20)
            have y21_223 := hR8.1 _ _ _ _ (t21)
            have yq8 := hd8.1
            refine lv_iload hx hb dX11_dueNow_21 (lv_at hl 4 rfl) ?_
            refine lv_aload_n hx hb dX11_dueNow_23 rfl (lv_at hl 0 rfl) ?_
            refine mq_get (ci := 16) (v := .ref (ad 21 0 0)) (C := RX11) (T := TX11) (N := 4) hx hb hts nX11 hown hK hM y20_222 rfl 2 (by decide) w6 (fun _ h9 => h9) rfl dX11_dueNow_24 ?_
            refine mq_calli (va_runV (As := []) (rest := [.int (nI i)]) ⟨hx, hb, hml, hown, hts⟩ (c_Jx4a65c_size_8abf5 l G A f8 (ad 21 0 0) (yS Y).1 (lsD G (yS Y).2 (ad 22 0 0)) (aN S2)) (cwV 0 hts gX11_dueNow_Jx4a65c_size_8abf5 rfl rfl rfl (by decide +kernel) ⟨Nat.le_of_ble_eq_true rfl, Nat.le_of_ble_eq_true rfl⟩) (mq_preV hK hZ hS hA hM (q := (RJx4a65c, TJx4a65c, 3)) y21_223 rfl (y21_223) _) rfl rfl hl.1 rfl (lv_room (Nat.le_of_ble_eq_true rfl)) dX11_dueNow_27 ⟨by show ((L8.length + 1)) + 0 ≤ 11; omega, by show ((10 * L8.length + 3)) + 0 ≤ 103; omega⟩) hS (fun r27 g27 H locs p27 hM hS => ?_)
            refine W.widen (k := ((L8.length + 1))) (n := ((10 * L8.length + 3))) (by omega) (by omega) ?_
            obtain ⟨rfl, rfl⟩ := p27
            refine lv_icmp_ge (tgt := 63) hx hb dX11_dueNow_30 (by decide) (fun c_30 => ?_) (fun c_30 => ?_)
            · replace c_30 : nI (aN S2) ≤ nI i := c_30
              rw [nI_leI (by omega) (by omega)] at c_30
              refine lv_iinc (v := nI (w + 1)) (lv' := [(3, .int (nI (w + 1))), (0, .ref (ad 20 0 0)), (1, .int (nI j)), (2, .ref q0), (4, .int (nI i))]) hx hb dX11_dueNow_63 hl (k := 3) rfl (nI_add _ _) (by decide) rfl (fun ls hl => ?_)
              refine lv_goto (tgt := 10) hx hb dX11_dueNow_66 (by decide) ?_
              exact W.widen (by first | omega | (simp only [List.length_nil]; omega)) (by first | omega | (simp only [List.length_nil]; omega)) (ih10 (w + 1) mo8 kk8 d8 L8 (by omega) (by omega) (by rw [hL8, show i = aN S2 by omega, hL9]; rfl) _  (hd8) _ _ hM hS _ (lv_sub hl [1, 2, 3, 0] rfl))
            · replace c_30 : ¬ nI (aN S2) ≤ nI i := c_30
              rw [nI_leI (by omega) (by omega)] at c_30
              have mab := (hma j i hj (by omega)).2.2.2.2.1
              have hrk : rkL (aM S2 j) (aN S2) (dqP S2 j w i) L8 := by rw [hL8, hL9]; exact dqI_rk (dqO_rk S2 j w) i hi
              have y29_221 := hR8.1 _ _ _ _ (t29 (j := j) (k := i) hj (by omega))
              refine lv_aload_n hx hb dX11_dueNow_33 rfl (lv_at hl 0 rfl) ?_
              refine lv_iload_n hx hb dX11_dueNow_34 rfl (lv_at hl 1 rfl) ?_
              refine lv_iload hx hb dX11_dueNow_35 (lv_at hl 4 rfl) ?_
              refine mq_callq (va_runV (As := [.int (nI j), .int (nI i)]) (rest := []) ⟨hx, hb, hml, hown, hts⟩ (c_X11_of l G A f8 ad S X S2 Y O T j i) (cwV 2 hts gX11_dueNow_X11_of rfl rfl rfl (by decide +kernel) ⟨Nat.le_of_ble_eq_true rfl, Nat.le_of_ble_eq_true rfl⟩) (mq_preV hK hZ hS hA hM (q := (RX11, TX11, 4)) y20_222 rfl (⟨hR8, hO, hj, by omega⟩) _) rfl rfl hl.1 rfl (lv_room (Nat.le_of_ble_eq_true rfl)) dX11_dueNow_37 ⟨by show ((L8.length + 1)) + 0 ≤ 11; omega, by show ((10 * L8.length + 3)) + 0 ≤ 103; omega⟩) hS (fun r37 g37 H locs p37 hM hS => ?_)
              refine W.widen (k := ((L8.length + 1))) (n := ((10 * L8.length + 3))) (by omega) (by omega) ?_
              obtain ⟨rfl, rfl⟩ := p37
              refine mq_get (ci := 13) (v := .int (du (mDu (aM S2 j i)))) (C := RX8) (T := TX8) (N := 6) hx hb hts nX8 hown hK hM y29_221 rfl 5 (by decide) w7 (fun _ h9 => h9) rfl dX11_dueNow_40 ?_
              refine lv_iload_n hx hb dX11_dueNow_43 rfl (lv_at hl 3 rfl) ?_
              refine lv_icmp_ne (tgt := 57) hx hb dX11_dueNow_44 (by decide) (fun c_44 => ?_) (fun c_44 => ?_)
              · replace c_44 : ¬ du (mDu (aM S2 j i)) = nI w := c_44
                rw [du_eqN (by omega) (by omega)] at c_44
                refine lv_iinc (v := nI (i + 1)) (lv' := [(4, .int (nI (i + 1))), (0, .ref (ad 20 0 0)), (1, .int (nI j)), (2, .ref q0), (3, .int (nI w))]) hx hb dX11_dueNow_57 hl (k := 4) rfl (nI_add _ _) (by decide) rfl (fun ls hl => ?_)
                refine lv_goto (tgt := 21) hx hb dX11_dueNow_60 (by decide) ?_
                exact W.widen (by first | omega | (simp only [List.length_nil]; omega)) (by first | omega | (simp only [List.length_nil]; omega)) (ih21 (i + 1) mo8 kk8 d8 L8 (by omega) (by omega) (by rw [hL8, dqI_S, if_neg c_44]) _  (hd8) _ _ hM hS _ (lv_sub hl [1, 2, 3, 4, 0] rfl))
              · replace c_44 : du (mDu (aM S2 j i)) = nI w := c_44
                rw [du_eqN (by omega) (by omega)] at c_44
                have hl8 : L8.length < aN S2 := by rw [hrk.2.2.2]; exact cntB_lt (k := i) (by omega) (by unfold dqP; rw [decide_eq_false (by omega), decide_eq_false (by omega)]; rfl)
                refine lv_aload_n hx hb dX11_dueNow_47 rfl (lv_at hl 2 rfl) ?_
                refine lv_iload hx hb dX11_dueNow_48 (lv_at hl 4 rfl) ?_
                refine mq_callq (va_runS (As := [.int (nI i)]) (rest := [.ref q0]) ⟨hx, hb, hml, hown, hts⟩ (c_J6_valueOf_2dffe l G A f8 i) (va_cwS 1 hts gX11_dueNow_J6_valueOf_2dffe rfl rfl rfl (by decide +kernel) ⟨Nat.le_of_ble_eq_true rfl, Nat.le_of_ble_eq_true rfl⟩) (mq_preS hK hZ hS hA hM (by omega) _) rfl rfl hl.1 rfl (lv_room (Nat.le_of_ble_eq_true rfl)) dX11_dueNow_50 ⟨by show ((L8.length + 1)) + 0 ≤ 11; omega, by show ((10 * L8.length + 3)) + 0 ≤ 103; omega⟩) hS (fun r50 g50 H locs p50 hM hS => ?_)
                refine W.widen (k := ((L8.length + 1))) (n := ((10 * L8.length + 3))) (by omega) (by omega) ?_
                obtain ⟨rfl, rfl⟩ := p50
                refine mq_calli (va_runV (As := [.ref (sI G (i + 128))]) (rest := []) ⟨hx, hb, hml, hown, hts⟩ (c_Jx4a65c_add_9ea2d l G A f8 q0 (sI G (i + 128)) mo8 kk8 d8 L8.length (fun t => sI G (L8.getD t 0 + 128)) 10) (cwV 1 hts gX11_dueNow_Jx4a65c_add_9ea2d rfl rfl rfl (by decide +kernel) ⟨Nat.le_of_ble_eq_true rfl, Nat.le_of_ble_eq_true rfl⟩) (mq_preV hK hZ hS hA hM (q := (RJx4a65c, TJx4a65c, 3)) yq8 rfl (⟨hd8.1, hd8.2.1, hd8.2.2.2.2.2.1, by omega, by have := hd8.2.2.2.2.1; omega, fun q => by have := hd8.2.2.2.2.1; rw [show kk8 = 0 by omega]; decide, fun t ht => Or.inr (Or.inr (Or.inr ⟨_, by have := (hrk.1 t ht).1; omega, rfl⟩)), Or.inr (Or.inr (Or.inr ⟨_, by omega, rfl⟩))⟩) _) rfl rfl hl.1 rfl (lv_room (Nat.le_of_ble_eq_true rfl)) dX11_dueNow_53 ⟨by show ((L8.length + 1)) + 1 ≤ 11; omega, by show ((10 * L8.length + 3)) + 10 ≤ 103; omega⟩) hS (fun r53 g53 H locs p53 hM hS => ?_)
                refine W.widen (k := ((L8.length + 1) + 1)) (n := ((10 * L8.length + 3) + 10)) (by omega) (by omega) ?_
                obtain ⟨ha, rfl⟩ := p53
                obtain ⟨kk7, d7, hd7⟩ := hd8.add (by omega) ha
                have hl7 : (L8 ++ [i]).length = L8.length + 1 := by simp
                refine lv_pop hx hb dX11_dueNow_56 rfl ?_
                refine lv_iinc (v := nI (i + 1)) (lv' := [(4, .int (nI (i + 1))), (0, .ref (ad 20 0 0)), (1, .int (nI j)), (2, .ref q0), (3, .int (nI w))]) hx hb dX11_dueNow_57 hl (k := 4) rfl (nI_add _ _) (by decide) rfl (fun ls hl => ?_)
                refine lv_goto (tgt := 21) hx hb dX11_dueNow_60 (by decide) ?_
                exact W.widen (by first | omega | (simp only [List.length_nil]; omega)) (by first | omega | (simp only [List.length_nil]; omega)) (ih21 (i + 1) (mo8 + 1) kk7 d7 (L8 ++ [i]) (by omega) (by omega) (by rw [hL8, dqI_S, if_pos c_44]) _  (hd7) _ _ hM hS _ (lv_sub hl [1, 2, 3, 4, 0] rfl))
        exact W.widen (by first | omega | (simp only [List.length_nil]; omega)) (by first | omega | (simp only [List.length_nil]; omega)) (K21 _ 0 mo9 kk9 d9 L9 (Nat.lt_succ_self _) (Nat.zero_le _) (rfl) _  (hd9) _ _ hM hS _ (lv_sub hl [1, 2, 3, 4, 0] rfl))
  exact W.widen (by first | omega | (simp only [List.length_nil]; omega)) (by first | omega | (simp only [List.length_nil]; omega)) (K10 _ 0 0 0 0 [] (Nat.lt_succ_self _) (Nat.zero_le _) (rfl) _  (⟨by rw [lsD_0]; exact h_6, fun q => absurd rfl q, fun q => absurd rfl q, hq0, Or.inl rfl, Nat.le_refl _, fun y e he => mq_n p4 (mq_n e_2 he (mq_neN he hq0)) (mq_neN he hq0)⟩) _ _ hM hS _ (lv_sub hl [2, 3, 1, 0] rfl))
