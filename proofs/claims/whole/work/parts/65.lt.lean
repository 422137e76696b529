def R_law : String := "TutorlightLaw"
def lw_P (b : Addr) (xs : List Int32) (args : Array Value) (s : State) : Prop := args = #[.ref b] ∧ s.IntsAt b xs ∧ xs.length ≤ 3072 ∧ (Jvm.Cond.and given_1 narrow_1).before args s = true
/-- what a walk over the start with the record d0 says of its end, said of the start itself -/
theorem lw_closed {s t : State} {o : Outcome} {d0 : Drawn} {L : List Loc} {k n : Nat} (hd0 : s.drawn.sameBut d0 lw_cs) (hv : ∃ v, o = .returned v) (hW : (s.setDrawn d0).WarmedH t.vm) (hs : (s.setDrawn d0).sameButNew ({ t with vm := s.vm } : State) L k n) : State.butDraws s t lw_cs (fun t1 => Framed s o t1 L k n) := by
  have h2 : t.drawn = d0 := congrArg State.drawn hs.1
  refine ⟨⟨hv, hW, State.sameButNew.setDrawn hs s.drawn⟩, ?_, by decide⟩
  rw [h2]
  exact hd0
def lw_Q (_ : Array Value) (s : State) (o : Outcome) (t : State) : Prop := o = .returned (some (.int 1)) ∧ State.butDraws s t lw_cs (fun t1 => Framed s o t1 [] 603072 7194729)
def lw_Z (below : List Frame) (a : Array Value) (s : State) : State → Prop := fun t => ∃ o, t.status = .running ∧ Ended t below o ∧ lw_Q a s o t
/-- the law's own end, with 1 on the stack, nothing written that was there before, its room as the claim has it; d0: the record of draws at this point (at the entry s.drawn: begin with 'refine W.base ?_' and 'have hd0 := Drawn.sameBut.refl s.drawn lw_cs') -/
theorem lw_ret {p : Program} {l : Launch} {e : Env} {s : State} {m : MethodId} {below : List Frame} {meth : Method} {c : Code} {b : Nat} {d0 : Drawn} (hd0 : s.drawn.sameBut d0 lw_cs) (hx : p.tables.exec = Jvm.exec) (hb : c.code = code) (hr : meth.sig.returnType = ret) (hlocks : meth.locks = false) {pc : Nat} {H : Heap} {ls : Array Slot} (hdg : decode code pc = .ok (.ireturn, 1)) : W p l e room_1 (s.setDrawn d0) m #[Value.ref b] below meth c H [] 603072 7194729 (lw_Z below #[Value.ref b] s) (F0 m pc ls [.int 1]) := by
  intro T hT X
  obtain ⟨fs, hret, hrun, hended, hW, hframe⟩ := X.leave (v := some (.int 1)) (hlocks := hlocks) (fun h => by rw [hr] at h; cases h)
  have hmeth' : T.vm.method? m = some meth := X.method'
  refine ⟨T.setFrames fs, ?_, .returned (some (.int 1)), hrun, hended, rfl, lw_closed hd0 ⟨_, rfl⟩ hW hframe⟩
  jvm_step X.here [X.here.top, hx, hb, hdg, hmeth', hr, ret, narrow_b1]
  (try refine ⟨rfl, ?_⟩); (try refine ⟨rfl, ?_⟩)
  first | (intro acts; rw [hret _ acts rfl rfl rfl]) | rw [hret _ _ rfl rfl rfl]
  exact Steps.refl _
/-- what holds at the law's entry: the machine, the code, the tables' words (any of lw_tbl by 'hts w (by decide +kernel)'), the script of L ints xs at the cell b, what the Statement gives of the start (any of its parts by flat_of_before) -/
def lw_At (p : Program) (s : State) (m : MethodId) (meth : Method) (c : Code) (b L : Nat) (xs : Nat → Int32) : Prop :=
  p.tables.exec = Jvm.exec ∧ c.code = code ∧ meth.sig.returnType = ret ∧ c.maxLocals = 9 ∧ s.vm.findClass R_law = some m.cls ∧ (∀ w ∈ lw_tbl, w.before #[Value.ref b] s = true) ∧ va_X b L xs s s.heap ∧ b < s.heap.size ∧ meth.locks = false ∧ (Jvm.Cond.and given_1 narrow_1).before #[Value.ref b] s = true
/-! AT THE START: nothing made yet but the two objects and the two rows -/
def s0S : AT := ((0, 0, 0), fun _ => (0, 0, 0, 0), fun _ _ => (0, 0, [], false, 0, 0), fun _ => (none, none, []))
def s0X : CX := (fun _ _ _ => 0, fun _ _ => 0, fun _ => 0, 1, none, fun _ => (0, 0, 0, 0), fun _ => (0, 0, 0, 0))
def s0Y : MX := (0, (0, 0), (0, 0), fun _ _ => (0, 0), fun _ => (0, 0), fun _ => (0, 0, 0))
def s0O : OX := (fun _ => 0, fun _ => 0)
theorem s0_ok : cOK s0S s0X 0 := ⟨⟨by decide, by decide, by decide, by decide⟩, fun k h => absurd h (Nat.not_lt_zero k), fun j k h => absurd h (Nat.not_lt_zero j), fun j h => absurd h (Nat.not_lt_zero j), fun j h => absurd h (Nat.not_lt_zero j), by decide⟩
theorem s0_cp : mCp s0S s0Y := ⟨⟨Nat.le_refl 0, Or.inl rfl⟩, ⟨Nat.le_refl 0, Or.inl rfl⟩, fun j k h => absurd h (Nat.not_lt_zero j), fun j h => absurd h (Nat.not_lt_zero j)⟩
def lw_ad (q0 sA lA eA rA bA q8 sL lL q17 q21 : Nat) (er eb : Nat → Nat) : AD := fun a j _ => match a with
  | 0 => q0 | 1 => sA | 2 => lA | 3 => eA | 15 => rA | 16 => bA | 17 => er j | 18 => eb j | 20 => q8 | 21 => sL | 23 => lL | 38 => q17 | 39 => q21 | _ => 0
/-- what kind of cell a part is -/
def lw_tg : va_E → Nat := fun e => match e with
  | .inl (_, n, .inr (.inr (.inr (.inr _)))) => n
  | .inl (_, _, .inr (.inl _)) => 100
  | .inl (_, _, .inr (.inr (.inr (.inl _)))) => 101
  | .inl _ => 102
  | .inr (ci, _) => 200 + ci
def lw_ta : Nat → Nat := fun a => match a with
  | 0 => 212 | 1 => 10 | 2 => 4 | 3 => 207 | 15 => 3 | 16 => 3 | 17 => 205 | 18 => 205 | 20 => 216 | 21 => 204 | 23 => 204 | 38 => 100 | 39 => 101 | _ => 0
abbrev lw_la : List Nat := [0, 1, 2, 3, 15, 16, 17, 18, 20, 21, 23, 38, 39]
set_option maxHeartbeats 4000000 in
theorem s0_live {G : mq_G} {ad : AD} {a j k : Nat} {e : va_E} (h : cT G ad s0S s0X s0S s0Y s0O a j k = some e) : a ∈ lw_la ∧ lw_tg e = lw_ta a ∧ k = 0 ∧ j < 3 ∧ ((a = 17 ∨ a = 18) ∨ j = 0) := by
  unfold cT at h
  split at h <;> (first | (cases h; done) | split at h) <;> first
    | (cases h; done)
    | (rename_i h8; exact absurd h8.1 (Nat.not_lt_zero _))
    | (rename_i h8; exact absurd rfl h8.1)
    | (rename_i h8; obtain ⟨h9, h10⟩ := h8; subst h9; subst h10; cases h; exact ⟨by decide, rfl, rfl, by decide, Or.inr rfl⟩)
    | (rename_i h8; cases h; exact ⟨by decide, rfl, h8.2, h8.1, Or.inl (Or.inl rfl)⟩)
    | (rename_i h8; cases h; exact ⟨by decide, rfl, h8.2, h8.1, Or.inl (Or.inr rfl)⟩)
theorem lw_tas : ∀ a ∈ lw_la, ∀ a' ∈ lw_la, lw_ta a = lw_ta a' → a = a' ∨ (a = 15 ∧ a' = 16) ∨ (a = 16 ∧ a' = 15) ∨ (a = 17 ∧ a' = 18) ∨ (a = 18 ∧ a' = 17) ∨ (a = 21 ∧ a' = 23) ∨ (a = 23 ∧ a' = 21) := by decide +kernel
set_option maxHeartbeats 4000000 in
theorem s0_RR {G : mq_G} {g : mq_F} {q0 sA lA eA rA bA q8 sL lL q17 q21 : Nat} {er eb : Nat → Nat}
    (c0 : g q0 = some (.inr (12, [.ref sA, .ref lA, .ref eA, .int 0, .int 0, .int 0]))) (d1 : g sA = some (cRf (G.2 6) 10 (fun _ => none))) (d2 : g lA = some (cRf (G.2 4) 4 (fun _ => none)))
    (c3 : g eA = some (cXp rA bA none 1)) (c15 : g rA = some (cRf (G.2 3) 3 (rf_of 3 er))) (c16 : g bA = some (cRf (G.2 3) 3 (rf_of 3 eb)))
    (c17 : ∀ k, k < 3 → g (er k) = some (cEq (0, 0, 0, 0))) (c18 : ∀ k, k < 3 → g (eb k) = some (cEq (0, 0, 0, 0)))
    (c20 : g q8 = some (.inr (16, [.int 0, .int 0, .ref sL, .ref lL]))) (c21 : g sL = some (cLs 0 (sE G) 0)) (c23 : g lL = some (cLs 0 (sE G) 0))
    (c38 : g q17 = some (.inl (G.2 1, 1, .inr (.inl (fun _ => 0))))) (c39 : g q21 = some (.inl (G.2 9, 1, .inr (.inr (.inr (.inl (fun _ => 0)))))))
    (hrb : rA ≠ bA) (hD : xpD er eb) (hsl : sL ≠ lL) : WR G g (lw_ad q0 sA lA eA rA bA q8 sL lL q17 q21 er eb) s0S s0X s0S s0Y s0O := by
  have c1 : g sA = some (cRf (G.2 6) 10 (rf_of 0 (fun i => lw_ad q0 sA lA eA rA bA q8 sL lL q17 q21 er eb 4 i 0))) := by rw [← rf_0]; exact d1
  have c2 : g lA = some (cRf (G.2 4) 4 (rf_of 0 (fun i => lw_ad q0 sA lA eA rA bA q8 sL lL q17 q21 er eb 5 i 0))) := by rw [← rf_0]; exact d2
  have hF : ∀ a j k e, cT G (lw_ad q0 sA lA eA rA bA q8 sL lL q17 q21 er eb) s0S s0X s0S s0Y s0O a j k = some e → g (lw_ad q0 sA lA eA rA bA q8 sL lL q17 q21 er eb a j k) = some e := by
    intro a j k e h
    unfold cT at h
    split at h <;> (first | (cases h; done) | split at h) <;> first
      | (cases h; done)
      | (rename_i h8; exact absurd h8.1 (Nat.not_lt_zero _))
      | (rename_i h8; exact absurd rfl h8.1)
      | (rename_i h8; obtain ⟨h9, h10⟩ := h8; subst h9; subst h10; cases h; first | exact c0 | exact c1 | exact c2 | exact c3 | exact c15 | exact c16 | exact c20 | exact c21 | exact c23 | exact c38 | exact c39)
      | (rename_i h8; cases h; exact c17 _ h8.1)
      | (rename_i h8; cases h; exact c18 _ h8.1)
  refine ⟨hF, fun a j k a' j' k' e e' h h' had => Or.inr ?_⟩
  have f1 := hF _ _ _ _ h
  have f2 := hF _ _ _ _ h'
  rw [had] at f1
  have ee : e = e' := Option.some.inj (f1.symm.trans f2)
  obtain ⟨m1, t1, z1, w1, u1⟩ := s0_live h
  obtain ⟨m2, t2, z2, w2, u2⟩ := s0_live h'
  rw [← ee] at t2
  rcases lw_tas a m1 a' m2 (t1.symm.trans t2) with rfl | ⟨rfl, rfl⟩ | ⟨rfl, rfl⟩ | ⟨rfl, rfl⟩ | ⟨rfl, rfl⟩ | ⟨rfl, rfl⟩ | ⟨rfl, rfl⟩
  · refine ⟨rfl, ?_, z1.trans z2.symm⟩
    by_cases q7 : a = 17
    · subst q7; exact (hD j j' w1 w2).1 had
    · by_cases q8 : a = 18
      · subst q8; exact (hD j j' w1 w2).2.1 had
      · have v1 : j = 0 := u1.elim (fun h => h.elim (fun h => absurd h q7) (fun h => absurd h q8)) id
        have v2 : j' = 0 := u2.elim (fun h => h.elim (fun h => absurd h q7) (fun h => absurd h q8)) id
        exact v1.trans v2.symm
  · exact absurd had hrb
  · exact absurd had.symm hrb
  · exact absurd had (hD j j' w1 w2).2.2
  · exact absurd had.symm (hD j' j w2 w1).2.2
  · exact absurd had hsl
  · exact absurd had.symm hsl
theorem lw_head {L T : Nat} (h : ¬ (Int32.ofNat L - 6 < nI (6 * T))) (hL : L ≤ 3072) (hT : T ≤ 512) : 6 * T + 6 ≤ L := by
  have e2 : (Int32.ofNat L - 6).toInt = (nI L - nI 6).toInt := rfl
  rw [Int32.lt_iff_toInt_lt, e2, pk_sub_toInt (a := L) (b := 6) (by omega) (by omega), nI_toInt (by omega)] at h
  omega
set_option maxHeartbeats 4000000 in
set_option maxRecDepth 100000 in
theorem lw_loop (l : Launch) (hfl : l.stackTraces = false) {p : Program} {e : Env} {s : State} {m : MethodId} {below : List Frame} {meth : Method} {c : Code} {b L : Nat} {xs : Nat → Int32} {G : mq_G} {A : Nat → Prop} (hC0 : lw_C p s m meth c b L xs G A) (hr : meth.sig.returnType = ret) (hlocks : meth.locks = false) (hAq : ∀ q : Nat, A q → s.heap.size ≤ q) :
    ∀ (n9 T : Nat), 512 - T < n9 → T ≤ 512 → ∀ (f : mq_F) (ad : AD) (S : AT) (X : CX) (Y : MX) (O : OX), WR G f ad S X S Y O → cOK S X T → mCp S Y → ∀ (H : Heap) (locs : List Loc), mq_W G.1 A f H → va_S A s.heap H locs → ∀ (ls : Array Slot), lv_has ls 9 [(0, .ref b), (1, .ref (ad 0 0 0)), (2, .ref (ad 20 0 0)), (3, .ref (ad 38 0 0)), (4, .ref (ad 39 0 0)), (5, .int (nI (6 * T)))] →
      W p l e room_1 s m #[Value.ref b] below meth c H locs (100 + 1177 * T) (20000 + 14000 * T) (lw_Z below #[Value.ref b] s) (F0 m 28 ls []) := by
  obtain ⟨hx, hb, hml, hown, hts, hK, hZ, hA, hN, hX, hbl, hbA, hL⟩ := id hC0
  intro n9
  induction n9 with
  | zero => intro T h; exact absurd h (Nat.not_lt_zero _)
  | succ n9 ih =>
    intro T hn hT f ad S X Y O hR hO hC H locs hM hS ls hl
    refine lv_iload hx hb dL_law_28 (lv_at hl 5 rfl) ?_
    refine lv_aload_n hx hb dL_law_30 rfl (lv_at hl 0 rfl) ?_
    refine va_slen hx hb hX hbl hbA hS dL_law_31 ?_
    refine lv_bipush (v := 6) hx hb dL_law_32 (by decide) ?_
    refine lv_isub hx hb dL_law_34 ?_
    refine lv_icmp_gt (tgt := 1779) hx hb dL_law_35 (by decide) (fun c_35 => ?_) (fun c_35 => ?_)
    · refine lv_iconst (v := 1) hx hb dL_law_1779 (by decide) ?_
      refine va_forget (fun q hq => hAq _ (hS.2.2 q hq)) ?_
      refine W.widen (k := 603072) (n := 7194729) (by omega) (by omega) ?_
      refine W.base ?_
      exact lw_ret (Drawn.sameBut.refl s.drawn lw_cs) hx hb hr hlocks dL_law_1780
    · have hi : 6 * T + 6 ≤ L := lw_head c_35 hL hT
      have hT5 : T < 512 := by omega
      refine lv_aload_n hx hb dL_law_38 rfl (lv_at hl 0 rfl) ?_
      refine lv_iload hx hb dL_law_39 (lv_at hl 5 rfl) ?_
      refine va_sld hx hb hX hbl hbA hS (vp_in_nI (by omega) (by omega)) dL_law_41 ?_
      rw [show (nI (6 * T) : Int32).toNatClampNeg = 6 * T from nI_clamp (by omega)]
      refine lv_bipush (v := 31) hx hb dL_law_42 (by decide) ?_
      refine lv_iand hx hb dL_law_44 ?_
      obtain ⟨k, hk, hke⟩ := pk_andE (xs (6 * T)) (m := 31) 5 (by decide)
      rw [hke]
      have K : lw_K p l e s m below meth c b G A (lw_Z below #[Value.ref b] s) T := by
        intro g ad S X Y O hR hO hC H locs hM hS ls hl
        refine lv_iinc (v := nI (6 * T + 6)) (lv' := [(5, .int (nI (6 * T + 6))), (0, .ref b), (1, .ref (ad 0 0 0)), (2, .ref (ad 20 0 0)), (3, .ref (ad 38 0 0)), (4, .ref (ad 39 0 0))]) hx hb dL_law_1773 hl (k := 5) rfl (nI_add _ _) (by decide) rfl (fun ls hl => ?_)
        rw [show 6 * T + 6 = 6 * (T + 1) by omega] at hl
        refine lv_goto (tgt := 28) hx hb dL_law_1776 (by decide) ?_
        exact ih (T + 1) (by omega) (by omega) g ad S X Y O hR hO hC H locs hM hS _ (lv_sub hl [1, 2, 3, 4, 5, 0] rfl)
      rcases (show k = 0 ∨ k = 1 ∨ k = 2 ∨ k = 3 ∨ k = 4 ∨ k = 5 ∨ k = 6 ∨ k = 7 ∨ k = 8 ∨ k = 9 ∨ k = 10 ∨ k = 11 ∨ k = 12 ∨ k = 13 ∨ k = 14 ∨ k = 15 ∨ k = 16 ∨ k = 17 ∨ k = 18 ∨ k = 19 ∨ k = 20 ∨ k = 21 ∨ k = 22 ∨ k = 23 ∨ k = 24 ∨ 25 ≤ k by omega) with rfl | rfl | rfl | rfl | rfl | rfl | rfl | rfl | rfl | rfl | rfl | rfl | rfl | rfl | rfl | rfl | rfl | rfl | rfl | rfl | rfl | rfl | rfl | rfl | rfl | hk25
      · exact lv_tableIn (off := 115) (tgt := 160) hx hb dL_law_45 (by decide +kernel) (by decide +kernel) (by decide +kernel) (by decide +kernel) (lw_case0 l hfl hC0 hR hO hC hT5 hi K hM hS hl)
      · exact lv_tableIn (off := 195) (tgt := 240) hx hb dL_law_45 (by decide +kernel) (by decide +kernel) (by decide +kernel) (by decide +kernel) (lw_case1 l hfl hC0 hR hO hC hT5 hi K hM hS hl)
      · exact lv_tableIn (off := 270) (tgt := 315) hx hb dL_law_45 (by decide +kernel) (by decide +kernel) (by decide +kernel) (by decide +kernel) (lw_case2 l hfl hC0 hR hO hC hT5 hi K hM hS hl)
      · exact lv_tableIn (off := 314) (tgt := 359) hx hb dL_law_45 (by decide +kernel) (by decide +kernel) (by decide +kernel) (by decide +kernel) (lw_case3 l hfl hC0 hR hO hC hT5 hi K hM hS hl)
      · exact lv_tableIn (off := 389) (tgt := 434) hx hb dL_law_45 (by decide +kernel) (by decide +kernel) (by decide +kernel) (by decide +kernel) (lw_case4 l hfl hC0 hR hO hC hT5 hi K hM hS hl)
      · exact lv_tableIn (off := 464) (tgt := 509) hx hb dL_law_45 (by decide +kernel) (by decide +kernel) (by decide +kernel) (by decide +kernel) (lw_case5 l hfl hC0 hR hO hC hT5 hi K hM hS hl)
      · exact lv_tableIn (off := 544) (tgt := 589) hx hb dL_law_45 (by decide +kernel) (by decide +kernel) (by decide +kernel) (by decide +kernel) (lw_case6 l hfl hC0 hR hO hC hT5 hi K hM hS hl)
      · exact lv_tableIn (off := 640) (tgt := 685) hx hb dL_law_45 (by decide +kernel) (by decide +kernel) (by decide +kernel) (by decide +kernel) (lw_case7 l hfl hC0 hR hO hC hT5 hi K hM hS hl)
      · exact lv_tableIn (off := 708) (tgt := 753) hx hb dL_law_45 (by decide +kernel) (by decide +kernel) (by decide +kernel) (by decide +kernel) (lw_case8 l hfl hC0 hR hO hC hT5 hi K hM hS hl)
      · exact lv_tableIn (off := 776) (tgt := 821) hx hb dL_law_45 (by decide +kernel) (by decide +kernel) (by decide +kernel) (by decide +kernel) (lw_case9 l hfl hC0 hR hO hC hT5 hi K hM hS hl)
      · exact lv_tableIn (off := 844) (tgt := 889) hx hb dL_law_45 (by decide +kernel) (by decide +kernel) (by decide +kernel) (by decide +kernel) (lw_case10 l hfl hC0 hR hO hC hT5 hi K hM hS hl)
      · exact lv_tableIn (off := 888) (tgt := 933) hx hb dL_law_45 (by decide +kernel) (by decide +kernel) (by decide +kernel) (by decide +kernel) (lw_case11 l hfl hC0 hR hO hC hT5 hi K hM hS hl)
      · exact lv_tableIn (off := 956) (tgt := 1001) hx hb dL_law_45 (by decide +kernel) (by decide +kernel) (by decide +kernel) (by decide +kernel) (lw_case12 l hfl hC0 hR hO hC hT5 hi K hM hS hl)
      · exact lv_tableIn (off := 1012) (tgt := 1057) hx hb dL_law_45 (by decide +kernel) (by decide +kernel) (by decide +kernel) (by decide +kernel) (lw_case13 l hfl hC0 hR hO hC hT5 hi K hM hS hl)
      · exact lv_tableIn (off := 1080) (tgt := 1125) hx hb dL_law_45 (by decide +kernel) (by decide +kernel) (by decide +kernel) (by decide +kernel) (lw_case14 l hfl hC0 hR hO hC hT5 hi K hM hS hl)
      · exact lv_tableIn (off := 1136) (tgt := 1181) hx hb dL_law_45 (by decide +kernel) (by decide +kernel) (by decide +kernel) (by decide +kernel) (lw_case15 l hfl hC0 hR hO hC hT5 hi K hM hS hl)
      · exact lv_tableIn (off := 1216) (tgt := 1261) hx hb dL_law_45 (by decide +kernel) (by decide +kernel) (by decide +kernel) (by decide +kernel) (lw_case16 l hfl hC0 hR hO hC hT5 hi K hM hS hl)
      · exact lv_tableIn (off := 1286) (tgt := 1331) hx hb dL_law_45 (by decide +kernel) (by decide +kernel) (by decide +kernel) (by decide +kernel) (lw_case17 l hfl hC0 hR hO hC hT5 hi K hM hS hl)
      · exact lv_tableIn (off := 1390) (tgt := 1435) hx hb dL_law_45 (by decide +kernel) (by decide +kernel) (by decide +kernel) (by decide +kernel) (lw_case18 l hfl hC0 hR hO hC hT5 hi K hM hS hl)
      · exact lv_tableIn (off := 1446) (tgt := 1491) hx hb dL_law_45 (by decide +kernel) (by decide +kernel) (by decide +kernel) (by decide +kernel) (lw_case19 l hfl hC0 hR hO hC hT5 hi K hM hS hl)
      · exact lv_tableIn (off := 1502) (tgt := 1547) hx hb dL_law_45 (by decide +kernel) (by decide +kernel) (by decide +kernel) (by decide +kernel) (lw_case20 l hfl hC0 hR hO hC hT5 hi K hM hS hl)
      · exact lv_tableIn (off := 1558) (tgt := 1603) hx hb dL_law_45 (by decide +kernel) (by decide +kernel) (by decide +kernel) (by decide +kernel) (lw_case21 l hfl hC0 hR hO hC hT5 hi K hM hS hl)
      · exact lv_tableIn (off := 1572) (tgt := 1617) hx hb dL_law_45 (by decide +kernel) (by decide +kernel) (by decide +kernel) (by decide +kernel) (lw_case22 l hfl hC0 hR hO hC hT5 hi K hM hS hl)
      · exact lv_tableIn (off := 1638) (tgt := 1683) hx hb dL_law_45 (by decide +kernel) (by decide +kernel) (by decide +kernel) (by decide +kernel) (lw_case23 l hfl hC0 hR hO hC hT5 hi K hM hS hl)
      · exact lv_tableIn (off := 1715) (tgt := 1760) hx hb dL_law_45 (by decide +kernel) (by decide +kernel) (by decide +kernel) (by decide +kernel) (lw_case24 l hfl hC0 hR hO hC hT5 hi K hM hS hl)
      · refine lv_tableOut (tgt := 1773) hx hb dL_law_45 (Or.inr (by rw [nI_toInt (by omega)]; omega)) (by decide) ?_
        exact W.widen (by omega) (by omega) (K f ad S X Y O hR (ok_mono hO hT5) hC H locs hM hS ls hl)
