/-! THE LAW'S METHODS: what they build on -/
abbrev lq_Nl : List (String × String) := [("java/lang/IllegalStateException", "java/lang/IllegalArgumentException"), ("java/lang/IllegalArgumentException", "java/lang/IndexOutOfBoundsException"), ("java/lang/IllegalStateException", "java/lang/IndexOutOfBoundsException"), ("java/util/NoSuchElementException", "java/lang/IndexOutOfBoundsException"), ("java/util/NoSuchElementException", "java/lang/IllegalStateException"), ("java/lang/ArithmeticException", "java/lang/IndexOutOfBoundsException")]
/-- exceptions that a handler of another class lets pass -/
def lq_N (U : State) : Prop := ∀ x ∈ lq_Nl, va_Nc x.1 x.2 U
theorem lq_N.moved {u U : State} (hvm : u.vm.Alike U.vm) (h : lq_N u) : lq_N U := fun x hx => va_Nc.moved hvm (h x hx)
abbrev lq_Pc (G : mq_G) (A : Nat → Prop) (f : mq_F) (P : Prop) (av : List Value) : Array Value → State → Prop := va_Pc av (fun U => (mq_I G A f U ∧ lq_N U) ∧ P)
theorem lq_blind {G : mq_G} {A : Nat → Prop} {f : mq_F} {P : Prop} {av : List Value} : FrameBlind (lq_Pc G A f P av) := fun a U g mk q => by
  obtain ⟨q0, ⟨⟨q1, q2, q3, q4⟩, q6⟩, q5⟩ := q
  exact ⟨q0, ⟨⟨va_K.moved (u := U) (U := U.calling g mk a) (Vm.Alike.refl U.vm) q1, mq_Z.warm (s := U) (U := U.calling g mk a) (State.WarmedH.refl U) q2, q3, q4⟩, lq_N.moved (u := U) (U := U.calling g mk a) (Vm.Alike.refl U.vm) q6⟩, q5⟩
theorem lq_at {s : State} {G : mq_G} {A : Nat → Prop} {f : mq_F} {P : Prop} {H : Heap} {locs : List Loc} (hK : va_K G.1 vwCl (mq_T G.2) s) (hZ : mq_Z G A s s.heap) (hS : va_S A s.heap H locs) (hA : ∀ q : Nat, s.heap.size ≤ q → A q) (hM : mq_W G.1 A f H) (hN : lq_N s) (hp : P) (av : List Value) : ∀ U : State, U.heap = H → s.WarmedH U.vm → lq_Pc G A f P av av.toArray U := fun U hU hW =>
  ⟨rfl, ⟨⟨va_K.moved hW.alike hK, by rw [hU]; exact mq_Z.warm hW (hZ.kept hS.2.1), by rw [hU]; exact hM, fun q h => hA q (Nat.le_trans hS.1 (by rw [hU] at h; exact h))⟩, hN.moved hW.alike⟩, hp⟩
theorem lq_preS {s : State} {G : mq_G} {A : Nat → Prop} {f : mq_F} {P : Prop} {H : Heap} {locs : List Loc} (hK : va_K G.1 vwCl (mq_T G.2) s) (hZ : mq_Z G A s s.heap) (hS : va_S A s.heap H locs) (hA : ∀ q : Nat, s.heap.size ≤ q → A q) (hM : mq_W G.1 A f H) (hN : lq_N s) (hp : P) (av : List Value) : PreS s H (lq_Pc G A f P av) av := ⟨lq_blind, lq_at hK hZ hS hA hM hN hp av⟩
theorem lq_ofWH {l : Launch} {y : MethodName} {ws ws' : List Cond} {rm : Room} {Pc : Array Value → State → Prop} {Qc : Array Value → State → Outcome → State → Prop} {mc ms : Nat} {free : Addr → Prop} {cc : ByteArray} {maxL : Nat} {ret : Option FieldType} {hh : List (Nat × Nat × Nat × Nat)}
    (hy : plainName y.cls = true) (hw : ws = Cond.codeWith y cc maxL ret hh :: ws')
    (body : ∀ p e s m args below meth c s₁, BodyLoose p l y (headSpec ws rm) cc maxL ret e s m args below meth c s₁ → c.maxLocals = maxL → Pc args s →
      W p l e (headSpec ws rm).room s m args below meth c s.heap [] 0 0 (MQ below Qc args s mc ms free) (entryFrame m args maxL)) : Met l y ws rm Pc Qc mc ms free := by
  refine MetFree.of_bodyS (code := cc) (maxLocals := maxL) (ret := ret) hy ?_ ?_
  · intro args s m h hn
    obtain ⟨m9, meth, c, hn9, h1, h2, h3, h4, -, h5, h6, -⟩ := Cond.codeWith_spec (atoms_spec (ws := ws) h _ (by rw [hw]; exact List.mem_cons_self))
    cases hn.symm.trans hn9
    exact ⟨meth, c, h1, h2, h3, h4, h5, h6⟩
  · intro p e s m args below meth c s₁ B hml hP _
    have hh0 : s₁.heap = s.heap := by rw [B.state]; rfl
    obtain ⟨t, a1, o, b1, b2, b3⟩ := body p e s m args below meth c s₁ B hml hP s₁ hh0 (Stand.of_body B)
    exact ⟨t, o, a1, b1, b2, ⟨b3.1, b3.2⟩⟩
/-- the law's rows hold what was answered -/
theorem WR_o8 {G : mq_G} {f g : mq_F} {ad : AD} {S : AT} {X : CX} {S2 : AT} {Y : MX} {O : OX} {a : Nat} {v : Nat → Int64} (h : WR G f ad S X S2 Y O) (ha : ad 38 0 0 = a) (hg : g = mq_up f a (.inl (G.2 1, 1, .inr (.inl v)))) : WR G g ad S X S2 Y (v, O.2) := by
  subst ha
  have h1 := RR.put h (a := 38) (j := 0) (k := 0) t38 rfl hg
  have e : cU (cT G ad S X S2 Y O) 38 0 0 (.inl (G.2 1, 1, .inr (.inl v))) = cT G ad S X S2 Y (v, O.2) := by
    funext a j k
    by_cases h9 : a = 38 ∧ j = 0 ∧ k = 0
    · obtain ⟨rfl, rfl, rfl⟩ := h9; rfl
    · rw [cU_n h9]
      unfold cT
      split <;> first | rfl | skip
      have : ¬ (j = 0 ∧ k = 0) := fun w => h9 ⟨rfl, w⟩
      rw [if_neg this, if_neg this]
  rw [e] at h1; exact h1
theorem WR_o9 {G : mq_G} {f g : mq_F} {ad : AD} {S : AT} {X : CX} {S2 : AT} {Y : MX} {O : OX} {a : Nat} {v : Nat → UInt64} (h : WR G f ad S X S2 Y O) (ha : ad 39 0 0 = a) (hg : g = mq_up f a (.inl (G.2 9, 1, .inr (.inr (.inr (.inl v)))))) : WR G g ad S X S2 Y (O.1, v) := by
  subst ha
  have h1 := RR.put h (a := 39) (j := 0) (k := 0) t39 rfl hg
  have e : cU (cT G ad S X S2 Y O) 39 0 0 (.inl (G.2 9, 1, .inr (.inr (.inr (.inl v))))) = cT G ad S X S2 Y (O.1, v) := by
    funext a j k
    by_cases h9 : a = 39 ∧ j = 0 ∧ k = 0
    · obtain ⟨rfl, rfl, rfl⟩ := h9; rfl
    · rw [cU_n h9]
      unfold cT
      split <;> first | rfl | skip
      have : ¬ (j = 0 ∧ k = 0) := fun w => h9 ⟨rfl, w⟩
      rw [if_neg this, if_neg this]
  rw [e] at h1; exact h1
/-- what is refused changes nothing -/
theorem st_LS {S : AT} {a b : Int32} {v : Nat → Nat → Nat × Int32 × AT} (hv : ∀ j k, (v j k).1 ≠ 0 → (v j k).2.2 = S) (h : (spLS S a b v (0, S)).1 ≠ 0) : (spLS S a b v (0, S)).2.2 = S := by
  unfold spLS at h ⊢
  by_cases q : (vI a (aL S) && vI b (aN S)) = true
  · rw [if_pos q] at h ⊢; exact hv _ _ h
  · rw [if_neg q]
theorem st_L {S : AT} {a : Int32} {v : Nat → Nat × Int32 × AT} (hv : ∀ j, (v j).1 ≠ 0 → (v j).2.2 = S) (h : (spL S a v (0, S)).1 ≠ 0) : (spL S a v (0, S)).2.2 = S := by
  unfold spL at h ⊢
  by_cases q : vI a (aL S) = true
  · rw [if_pos q] at h ⊢; exact hv _ h
  · rw [if_neg q]
theorem st_if {S : AT} {q : Prop} [Decidable q] {x y : Nat × Int32 × AT} (hx : x.1 ≠ 0 → x.2.2 = S) (hy : y.1 ≠ 0 → y.2.2 = S) (h : (if q then x else y).1 ≠ 0) : (if q then x else y).2.2 = S := by
  by_cases w : q
  · rw [if_pos w] at h ⊢; exact hx h
  · rw [if_neg w] at h ⊢; exact hy h
theorem st_open {S : AT} {a b : Int32} (h : (spOpen S a b).1 ≠ 0) : (spOpen S a b).2.2 = S := st_LS (fun _ _ h => absurd rfl h) h
theorem st_set {S : AT} {a b o : Int32} (h : (spSet S a b o).1 ≠ 0) : (spSet S a b o).2.2 = S := st_LS (fun _ _ h => st_if (fun h => absurd rfl h) (fun _ => rfl) h) h
theorem st_answer {S : AT} {a b : Int32} {z : Bool} (h : (spAnswer S a b z).1 ≠ 0) : (spAnswer S a b z).2.2 = S := st_LS (fun _ _ h => st_if (fun h => absurd rfl h) (fun _ => rfl) h) h
theorem st_day {S : AT} (h : (spDay S).1 ≠ 0) : (spDay S).2.2 = S := st_if (fun h => absurd rfl h) (fun _ => rfl) h
theorem st_hint {S : AT} {a : Int32} (h : (spHint S a).1 ≠ 0) : (spHint S a).2.2 = S := st_L (fun j h => by
  revert h
  unfold hiV
  cases lEx (aE S j) with
  | none => exact fun _ => rfl
  | some e => exact fun h => absurd rfl h) h
theorem st_need {S : AT} {a b : Int32} (h : (spNeed S a b).1 ≠ 0) : (spNeed S a b).2.2 = S := st_if (fun h => st_if (fun _ => rfl) (fun h => st_if (fun _ => rfl) (fun h => absurd rfl h) h) h) (fun _ => rfl) h
theorem st_make {S : AT} {a b n : Int32} (h : (spMake S a b n).1 ≠ 0) : (spMake S a b n).2.2 = S := st_LS (fun _ _ h => st_if (fun h => st_if (fun h => absurd rfl h) (fun _ => rfl) h) (fun _ => rfl) h) h
theorem st_step {S : AT} {i a b c d : Int32} (h : (spStep S i a b c d).1 ≠ 0) : (spStep S i a b c d).2.2 = S := st_L (fun j h => st_if (fun h => by
  revert h
  unfold stV
  cases lEx (aE S j) with
  | none => exact fun _ => rfl
  | some e => exact fun h => st_if (fun h => st_if (fun h => absurd rfl h) (fun h => absurd rfl h) h) (fun h => absurd rfl h) h) (fun _ => rfl) h) h
theorem st_skill {S : AT} {a b c : Int32} (h : (spSkill S a b c).1 ≠ 0) : (spSkill S a b c).2.2 = S := st_if (fun h => st_if (fun h => absurd rfl h) (fun _ => rfl) h) (fun _ => rfl) h
theorem st_learner {S : AT} (h : (spLearner S).1 ≠ 0) : (spLearner S).2.2 = S := st_if (fun h => absurd rfl h) (fun _ => rfl) h
theorem anew_eq {S : AT} {X : CX} {T : Nat} (h : cOK S X T) (a b : Int32) : spAnew2 S a b = spOdds S a b := by
  show spLS S a b _ _ = spLS S a b _ _
  unfold spLS
  by_cases q : (vI a (aL S) && vI b (aN S)) = true
  · rw [if_pos q, if_pos q]
    rw [Bool.and_eq_true] at q
    obtain ⟨j, hj, rfl⟩ := vI_ex1 q.1
    obtain ⟨k, hk, rfl⟩ := vI_ex1 q.2
    have hn := h.1.1; have hl := h.1.2.1
    rw [nI_clamp (n := j) (by omega), nI_clamp (n := k) (by omega)]
    have := (h.2.2.1 j k hj (by omega)).2.2.2.2.2.2.1 hk
    exact congrArg (fun z => ((0 : Nat), nI z)) this.symm
  · rw [if_neg q, if_neg q]
theorem sh2_nan : ∀ b, b < 41 → b ≠ 0 → ∀ a, a < 41 → vf_n64 (FP.f2d (FP.fdiv (FP.i2f (nI a)) (FP.i2f (nI b)))) := by unfold vf_n64; decide +kernel
theorem sh2_cmp : ∀ b, b < 41 → b ≠ 0 → ∀ a, a < 41 → Op.cmpValue (FP.dcmp (FP.f2d (FP.fdiv (FP.i2f (nI a)) (FP.i2f (nI b)))) (FP.f2d (FP.fdiv (FP.i2f (nI a)) (FP.i2f (nI b))))) CmpOp.l = 0 := by decide +kernel
theorem shF_b {S : AT} {X : CX} {T : Nat} (h : cOK S X T) (h0 : aL S * aN S ≠ 0) : vf_n64 (FP.f2d (shF S)) ∧ Op.cmpValue (FP.dcmp (FP.f2d (shF S)) (FP.f2d (shF S))) CmpOp.l = 0 := by
  have h1 := Nat.mul_le_mul h.1.2.1 h.1.1
  have h2 := knC_le S (aL S)
  exact ⟨sh2_nan _ (by omega) h0 _ (by omega), sh2_cmp _ (by omega) h0 _ (by omega)⟩
