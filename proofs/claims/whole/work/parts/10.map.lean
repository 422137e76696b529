/-! THE WORLD AS A MAP: f says of an address what cell lies there; a world's rows are the kit's over the list of f's cells below the heap's size -/
abbrev mq_F : Type := Nat → Option va_E
def mq_up (f : mq_F) (a : Nat) (e : va_E) : mq_F := fun j => if j = a then some e else f j
theorem mq_up_s {f : mq_F} {a : Nat} {e : va_E} : mq_up f a e a = some e := by simp [mq_up]
theorem mq_up_n {f : mq_F} {a b : Nat} {e : va_E} (h : b ≠ a) : mq_up f a e b = f b := by simp [mq_up, h]
theorem mq_uu {f : mq_F} {a : Nat} {e e' : va_E} : mq_up (mq_up f a e) a e' = mq_up f a e' := by
  funext j
  by_cases h : j = a <;> simp [mq_up, h]
theorem mq_uc {f : mq_F} {a b : Nat} {e e' : va_E} (h : a ≠ b) : mq_up (mq_up f a e) b e' = mq_up (mq_up f b e') a e := by
  funext j
  by_cases ha : j = a
  · subst ha; simp [mq_up, h]
  · by_cases hb : j = b
    · subst hb; simp [mq_up, ha]
    · simp [mq_up, ha, hb]
theorem mq_id {f : mq_F} {a : Nat} {e : va_E} (h : f a = some e) : mq_up f a e = f := by
  funext j
  by_cases hj : j = a
  · subst hj; simp [mq_up, h]
  · simp [mq_up, hj]
theorem mq_s {f g : mq_F} {a : Nat} {e : va_E} (hg : g = mq_up f a e) : g a = some e := by rw [hg]; exact mq_up_s
theorem mq_n {f g : mq_F} {a b : Nat} {e e' : va_E} (hg : g = mq_up f a e) (hb : f b = some e') (h : b ≠ a) : g b = some e' := by rw [hg, mq_up_n h]; exact hb
theorem mq_ne {f : mq_F} {a b : Nat} {e e' : va_E} (ha : f a = some e) (hb : f b = some e') (h : e ≠ e') : a ≠ b := by
  intro q
  subst q
  exact h (Option.some.inj (ha.symm.trans hb))
/-- two objects of different classes lie apart -/
theorem mq_neO {f : mq_F} {a b i j : Nat} {fs gs : List Value} (ha : f a = some (.inr (i, fs))) (hb : f b = some (.inr (j, gs))) (h : i ≠ j) : a ≠ b := mq_ne ha hb fun q => h (congrArg Prod.fst (Sum.inr.inj q))
theorem mq_neA {f : mq_F} {a b i : Nat} {fs : List Value} {x : ClassId × vp_A} (ha : f a = some (.inr (i, fs))) (hb : f b = some (.inl x)) : a ≠ b := mq_ne ha hb (fun q => nomatch q)
theorem mq_neB {f : mq_F} {a b i : Nat} {fs : List Value} {x : ClassId × vp_A} (ha : f a = some (.inl x)) (hb : f b = some (.inr (i, fs))) : a ≠ b := mq_ne ha hb (fun q => nomatch q)
theorem mq_neN {f : mq_F} {a b : Nat} {e : va_E} (ha : f a = some e) (hb : f b = none) : a ≠ b := by
  intro q
  subst q
  rw [ha] at hb
  cases hb
theorem mq_neCil {f : mq_F} {a b n n' : Nat} {c c' : ClassId} {g : Nat → Int32} {g' : Nat → Int64} (ha : f a = some (.inl (c, n, .inl g))) (hb : f b = some (.inl (c', n', .inr (.inl g')))) : a ≠ b := mq_ne ha hb (fun q => by cases q)
theorem mq_neCiq {f : mq_F} {a b n n' : Nat} {c c' : ClassId} {g : Nat → Int32} {g' : Nat → Option Nat} (ha : f a = some (.inl (c, n, .inl g))) (hb : f b = some (.inl (c', n', .inr (.inr (.inr (.inr g')))))) : a ≠ b := mq_ne ha hb (fun q => by cases q)
theorem mq_neCid {f : mq_F} {a b n n' : Nat} {c c' : ClassId} {g : Nat → Int32} {g' : Nat → UInt64} (ha : f a = some (.inl (c, n, .inl g))) (hb : f b = some (.inl (c', n', .inr (.inr (.inr (.inl g')))))) : a ≠ b := mq_ne ha hb (fun q => by cases q)
theorem mq_neCli {f : mq_F} {a b n n' : Nat} {c c' : ClassId} {g : Nat → Int64} {g' : Nat → Int32} (ha : f a = some (.inl (c, n, .inr (.inl g)))) (hb : f b = some (.inl (c', n', .inl g'))) : a ≠ b := mq_ne ha hb (fun q => by cases q)
theorem mq_neClq {f : mq_F} {a b n n' : Nat} {c c' : ClassId} {g : Nat → Int64} {g' : Nat → Option Nat} (ha : f a = some (.inl (c, n, .inr (.inl g)))) (hb : f b = some (.inl (c', n', .inr (.inr (.inr (.inr g')))))) : a ≠ b := mq_ne ha hb (fun q => by cases q)
theorem mq_neCld {f : mq_F} {a b n n' : Nat} {c c' : ClassId} {g : Nat → Int64} {g' : Nat → UInt64} (ha : f a = some (.inl (c, n, .inr (.inl g)))) (hb : f b = some (.inl (c', n', .inr (.inr (.inr (.inl g')))))) : a ≠ b := mq_ne ha hb (fun q => by cases q)
theorem mq_neCqi {f : mq_F} {a b n n' : Nat} {c c' : ClassId} {g : Nat → Option Nat} {g' : Nat → Int32} (ha : f a = some (.inl (c, n, .inr (.inr (.inr (.inr g)))))) (hb : f b = some (.inl (c', n', .inl g'))) : a ≠ b := mq_ne ha hb (fun q => by cases q)
theorem mq_neCql {f : mq_F} {a b n n' : Nat} {c c' : ClassId} {g : Nat → Option Nat} {g' : Nat → Int64} (ha : f a = some (.inl (c, n, .inr (.inr (.inr (.inr g)))))) (hb : f b = some (.inl (c', n', .inr (.inl g')))) : a ≠ b := mq_ne ha hb (fun q => by cases q)
theorem mq_neCqd {f : mq_F} {a b n n' : Nat} {c c' : ClassId} {g : Nat → Option Nat} {g' : Nat → UInt64} (ha : f a = some (.inl (c, n, .inr (.inr (.inr (.inr g)))))) (hb : f b = some (.inl (c', n', .inr (.inr (.inr (.inl g')))))) : a ≠ b := mq_ne ha hb (fun q => by cases q)
theorem mq_neCdi {f : mq_F} {a b n n' : Nat} {c c' : ClassId} {g : Nat → UInt64} {g' : Nat → Int32} (ha : f a = some (.inl (c, n, .inr (.inr (.inr (.inl g)))))) (hb : f b = some (.inl (c', n', .inl g'))) : a ≠ b := mq_ne ha hb (fun q => by cases q)
theorem mq_neCdl {f : mq_F} {a b n n' : Nat} {c c' : ClassId} {g : Nat → UInt64} {g' : Nat → Int64} (ha : f a = some (.inl (c, n, .inr (.inr (.inr (.inl g)))))) (hb : f b = some (.inl (c', n', .inr (.inl g')))) : a ≠ b := mq_ne ha hb (fun q => by cases q)
theorem mq_neCdq {f : mq_F} {a b n n' : Nat} {c c' : ClassId} {g : Nat → UInt64} {g' : Nat → Option Nat} (ha : f a = some (.inl (c, n, .inr (.inr (.inr (.inl g)))))) (hb : f b = some (.inl (c', n', .inr (.inr (.inr (.inr g')))))) : a ≠ b := mq_ne ha hb (fun q => by cases q)
def mq_W (D : va_G) (A : Nat → Prop) (f : mq_F) (H : Heap) : Prop := ∀ (a : Nat) (e : va_E), f a = some e → A a ∧ va_at D vwCl (a, e) H
def mq_l (f : mq_F) : Nat → va_W
  | 0 => []
  | n + 1 => match f n with
    | some e => mq_l f n ++ [(n, e)]
    | none => mq_l f n
theorem mq_l_lt {f : mq_F} : ∀ (n : Nat) {q : Nat × va_E}, q ∈ mq_l f n → q.1 < n ∧ f q.1 = some q.2
  | 0, q, h => by simp [mq_l] at h
  | n + 1, q, h => by
    unfold mq_l at h
    split at h
    · rename_i e he
      rcases List.mem_append.mp h with h | h
      · have := mq_l_lt n h
        exact ⟨by omega, this.2⟩
      · rw [List.mem_singleton.mp h]
        exact ⟨Nat.lt_succ_self n, he⟩
    · have := mq_l_lt n h
      exact ⟨by omega, this.2⟩
theorem mq_l_in {f : mq_F} : ∀ (n : Nat) {a : Nat} {e : va_E}, a < n → f a = some e → (a, e) ∈ mq_l f n
  | 0, a, e, h, _ => by omega
  | n + 1, a, e, h, hf => by
    unfold mq_l
    by_cases ha : a = n
    · subst ha
      rw [hf]
      exact List.mem_append_right _ List.mem_cons_self
    · have := mq_l_in n (show a < n by omega) hf
      split
      · exact List.mem_append_left _ this
      · exact this
theorem mq_l_nd {f : mq_F} : ∀ n : Nat, ((mq_l f n).map Prod.fst).Nodup
  | 0 => by simp [mq_l]
  | n + 1 => by
    unfold mq_l
    split
    · rw [List.map_append, List.nodup_append]
      refine ⟨mq_l_nd n, by simp, fun a ha b hb => ?_⟩
      obtain ⟨q, hq, rfl⟩ := List.mem_map.mp ha
      have := (mq_l_lt n hq).1
      simp at hb
      omega
    · exact mq_l_nd n
theorem mq_get0 {f : mq_F} {n a : Nat} {e : va_E} (ha : a < n) (hf : f a = some e) : ∃ k : Nat, (mq_l f n)[k]? = some (a, e) := List.getElem?_of_mem (mq_l_in n ha hf)
theorem mq_W.lt {D : va_G} {A : Nat → Prop} {f : mq_F} {H : Heap} (h : mq_W D A f H) {a : Nat} {e : va_E} (hf : f a = some e) : a < H.size := (h a e hf).2.lt
theorem mq_W.P {D : va_G} {A : Nat → Prop} {f : mq_F} {H : Heap} (h : mq_W D A f H) (n : Nat) : va_P D vwCl (mq_l f n) H := fun k q hk => (h q.1 q.2 (mq_l_lt n (List.mem_of_getElem? hk)).2).2
theorem mq_W.D {D : va_G} {A : Nat → Prop} {f : mq_F} {H : Heap} (h : mq_W D A f H) (n : Nat) : va_D A (mq_l f n) := by
  refine ⟨fun i j p q hi hj hpq => ?_, fun k q hk => (h q.1 q.2 (mq_l_lt n (List.mem_of_getElem? hk)).2).1⟩
  have h1 : ((mq_l f n).map Prod.fst)[i]? = some p.1 := by rw [List.getElem?_map, hi]; rfl
  have h2 : ((mq_l f n).map Prod.fst)[j]? = some p.1 := by rw [List.getElem?_map, hj, hpq]; rfl
  have hl := (List.getElem?_eq_some_iff.mp h1).1
  exact (List.getElem?_inj hl (mq_l_nd n)).mp (h1.trans h2.symm)
theorem mq_set {D : va_G} {A : Nat → Prop} {f : mq_F} {H H1 : Heap} {a k : Nat} {e e' : va_E} (h : mq_W D A f H) (hf : f a = some e) (hk : (mq_l f H.size)[k]? = some (a, e)) (hP : va_P D vwCl ((mq_l f H.size).set k (a, e')) H1) : mq_W D A (mq_up f a e') H1 := by
  have hl := (List.getElem?_eq_some_iff.mp hk).1
  intro b x hb
  by_cases hba : b = a
  · subst hba
    rw [mq_up_s] at hb
    cases hb
    exact ⟨(h _ _ hf).1, hP k _ (List.getElem?_set_self hl)⟩
  · rw [mq_up_n hba] at hb
    obtain ⟨j, hj⟩ := mq_get0 (h.lt hb) hb
    refine ⟨(h _ _ hb).1, hP j _ ?_⟩
    rw [List.getElem?_set_ne]
    · exact hj
    · intro q
      subst q
      exact hba (congrArg Prod.fst (Option.some.inj (hj.symm.trans hk)))
theorem mq_push {D : va_G} {A : Nat → Prop} {f : mq_F} {H H1 : Heap} {q : Nat} {e : va_E} (h : mq_W D A f H) (hP : va_P D vwCl (mq_l f H.size ++ [(q, e)]) H1) (hD : va_D A (mq_l f H.size ++ [(q, e)])) : f q = none ∧ mq_W D A (mq_up f q e) H1 := by
  have hlast : (mq_l f H.size ++ [(q, e)])[(mq_l f H.size).length]? = some (q, e) := by simp
  have hq : f q = none := by
    cases hfq : f q with
    | none => rfl
    | some x =>
      obtain ⟨j, hj⟩ := mq_get0 (h.lt hfq) hfq
      have hl := (List.getElem?_eq_some_iff.mp hj).1
      have := hD.1 j (mq_l f H.size).length (q, x) (q, e) (by rw [List.getElem?_append_left hl]; exact hj) hlast rfl
      omega
  refine ⟨hq, fun b x hb => ?_⟩
  by_cases hbq : b = q
  · subst hbq
    rw [mq_up_s] at hb
    cases hb
    exact ⟨hD.2 _ _ hlast, hP _ _ hlast⟩
  · rw [mq_up_n hbq] at hb
    obtain ⟨j, hj⟩ := mq_get0 (h.lt hb) hb
    have hl := (List.getElem?_eq_some_iff.mp hj).1
    exact ⟨(h _ _ hb).1, hP j _ (by rw [List.getElem?_append_left hl]; exact hj)⟩
theorem mq_one {D : va_G} {A : Nat → Prop} {f : mq_F} {H : Heap} (h : mq_W D A f H) {a : Nat} {e : va_E} (hf : f a = some e) : va_P D vwCl [(a, e)] H := by
  intro k q hk
  match k, hk with
  | 0, hk => cases hk; exact (h a e hf).2
  | k + 1, hk => simp at hk
/-- the classes of the arrays that the worlds hold -/
abbrev mq_T (d : Nat → ClassId) : List (ClassId × FieldType) := [(d 0, .int), (d 1, .long), (d 2, .boolean), (d 3, .object RX0), (d 4, .object RX3), (d 5, .object RX4), (d 6, .object RX5), (d 7, .object RX8), (d 8, .object "java/lang/Object"), (d 9, .double)]
/-- what a method may build on, but its world: texts, casts and private links as the tables have them, and the statics that exceptions are made with -/
abbrev mq_Sl : List (String × Nat × String) := [(RX7, 38, "no room for another skill"), (RX7, 56, "a skill came to need itself"), (RX7, 69, "no room for another learner"), (RX7, 94, "odds out of range"), (RX7, 122, "no day behind the last one"), (RX7, 131, "never answered"), (RX7, 144, "no such review"), (RX7, 153, "nothing to do"), (RX7, 155, "number out of range"), (RX7, 172, "no such part"), (RX7, 219, "no step was wrong"), (RX7, 225, "no explanation"), (RX7, 236, "no odds"), (RX7, 238, "no learners"), (RX7, 250, "thousandths out of range"), (RX7, 252, "the skill is not open"), (RX7, 256, "no such skill"), (RX7, 259, "no such learner"), (RX7, 261, "no exercise")]
abbrev mq_Cl : List (String × String) := [("java/util/NoSuchElementException", "java/util/NoSuchElementException"), ("java/lang/IndexOutOfBoundsException", "java/lang/IndexOutOfBoundsException"), ("java/lang/IllegalStateException", "java/lang/IllegalStateException"), ("java/lang/IllegalArgumentException", "java/lang/IllegalArgumentException"), ("java/lang/ArithmeticException", "java/lang/ArithmeticException"), (RX9, "java/lang/Object"), (RX10, "java/lang/Object"), ("java/lang/Integer", "java/lang/Object"), ("java/lang/Boolean", "java/lang/Object"), ("[I", "java/lang/Object")]
abbrev mq_Dl : List MethodName := [⟨"java/lang/RuntimeException", "<init>", "(Ljava/lang/String;)V"⟩, ⟨"java/lang/Exception", "<init>", "(Ljava/lang/String;)V"⟩, ⟨"java/lang/Throwable", "<init>", "(Ljava/lang/String;)V"⟩, ⟨"java/lang/Object", "getClass", "()Ljava/lang/Class;"⟩]
abbrev mq_Ml : List (String × Nat × MethodName × String) := [(RX3, 21, yX4_init, "Tutorlight"), (RX11, 54, yX10_init, "TutorlightModel"), (RX9, 22, yX8_init, "TutorlightModel")]
abbrev mq_Fl : List (String × Nat × String × String × String × String) := [("java/util/ArrayList$Itr", 28, "java/util/ArrayList", "size", "I", "java/util/ArrayList")]
abbrev mq_Il : List (String × MethodName × MethodName) := [(RJx35411, ⟨"java/util/Iterator", "hasNext", "()Z"⟩, yJx35411_hasNext_aae02), (RJx35411, ⟨"java/util/Iterator", "next", "()Ljava/lang/Object;"⟩, yJx35411_next_0502b)]
abbrev mq_Al : List String := [RX0, RX3, RX4, RX5, RX8, "java/lang/Object"]
def mq_N (U : State) : Prop := (∀ x ∈ mq_Sl, ∃ a, vk_R x.1 x.2.1 x.2.2 a U) ∧ (∀ x ∈ mq_Cl, va_Nw (.castable x.1 x.2) U) ∧ (∀ x ∈ mq_Ml, va_Nw (.methodLinkNest x.1 x.2.1 x.2.2.1 x.2.2.2) U) ∧ (∀ x ∈ mq_Fl, va_Nw (.fieldLinkNest x.1 x.2.1 x.2.2.1 x.2.2.2.1 x.2.2.2.2.1 x.2.2.2.2.2) U) ∧ (∀ x ∈ mq_Il, va_Fw x.1 x.2.1 x.2.2 U) ∧ (∀ x ∈ mq_Dl, va_Nw (.declares x) U) ∧ (∀ C ∈ mq_Al, va_AO C U)
theorem mq_Il_ok : ∀ x ∈ mq_Il, x.2.1.cls ≠ "java/lang/invoke/MethodHandle" ∧ x.2.1.cls ≠ "java/lang/invoke/VarHandle" := by decide
theorem mq_N.warm {s U : State} (hW : s.WarmedH U.vm) (h : mq_N s) : mq_N U := ⟨fun x hx => (h.1 x hx).elim fun a ha => ⟨a, vk_R.warm hW ha⟩, fun x hx => va_Nw.warmC hW (h.2.1 x hx), fun x hx => va_Nw.warmM hW (h.2.2.1 x hx), fun x hx => va_Nw.warmF hW (h.2.2.2.1 x hx), fun x hx => va_Fw.moved (mq_Il_ok x hx) hW.alike (h.2.2.2.2.1 x hx), fun x hx => va_Nw.warmD hW (h.2.2.2.2.2.1 x hx), fun C hC => va_AO.moved hW.alike (h.2.2.2.2.2.2 C hC)⟩
/-- addresses of statics, kept beside the field places: 99 0 FALSE, 99 1 TRUE, 99 2 the empty row of lists, 99 3 the cache of small Integers; 100 k its k-th -/
abbrev mq_G : Type := va_G × (Nat → ClassId)
abbrev sB (G : mq_G) (b : Bool) : Nat := G.1.2 99 (if b then 1 else 0)
abbrev sE (G : mq_G) : Nat := G.1.2 99 2
abbrev sC (G : mq_G) : Nat := G.1.2 99 3
/-- and 99 4 the class object of the rows of Objects -/
abbrev sM (G : mq_G) : Nat := G.1.2 99 4
abbrev sI (G : mq_G) : Nat → Nat := G.1.2 100
def mq_bn (b : Bool) : String := if b then "TRUE" else "FALSE"
def mq_bz (b : Bool) : Int32 := if b then 1 else 0
def mq_B (G : mq_G) (A : Nat → Prop) (U : State) (H : Heap) : Prop :=
  (∀ b : Bool, va_Z "java/lang/Boolean" (mq_bn b) "Ljava/lang/Boolean;" (.ref (sB G b)) A U H ∧ va_O "java/lang/Boolean" (sB G b) A U H ∧ va_OF "java/lang/Boolean" "value" "Z" (.int (mq_bz b)) (sB G b) A U H)
  ∧ (va_Z "java/util/ArrayList" "DEFAULTCAPACITY_EMPTY_ELEMENTDATA" "[Ljava/lang/Object;" (.ref (sE G)) A U H ∧ va_T (.object "java/lang/Object") (sE G) 0 (fun _ => .null) A U H ∧ va_Mi "[Ljava/lang/Object;" (sM G) U)
  ∧ (va_Z "java/lang/Integer$IntegerCache" "high" "I" (.int 127) A U H ∧ va_Z "java/lang/Integer$IntegerCache" "cache" "[Ljava/lang/Integer;" (.ref (sC G)) A U H ∧ va_T (.object "java/lang/Integer") (sC G) 256 (fun k => .ref (sI G k)) A U H ∧ vb_C (sI G) A U H)
theorem mq_B.moved {G : mq_G} {A : Nat → Prop} {u U : State} {H : Heap} (hvm : u.vm.Alike U.vm) (h : mq_B G A u H) : mq_B G A U H := ⟨fun b => ⟨va_Z.moved hvm (h.1 b).1, va_O.moved hvm (h.1 b).2.1, va_OF.moved hvm (h.1 b).2.2⟩, ⟨va_Z.moved hvm h.2.1.1, va_T.moved hvm h.2.1.2.1, h.2.1.2.2.moved hvm⟩, ⟨va_Z.moved hvm h.2.2.1, va_Z.moved hvm h.2.2.2.1, va_T.moved hvm h.2.2.2.2.1, vb_C.moved hvm h.2.2.2.2.2⟩⟩
theorem mq_B.kept {G : mq_G} {A : Nat → Prop} {U : State} {H H1 : Heap} (h : mq_B G A U H) (hq : ∀ a : Nat, a < H.size → ¬ A a → H1[a]? = H[a]?) : mq_B G A U H1 := ⟨fun b => ⟨(h.1 b).1.kept hq, (h.1 b).2.1.kept hq, (h.1 b).2.2.kept hq⟩, ⟨h.2.1.1.kept hq, h.2.1.2.1.kept hq, h.2.1.2.2⟩, ⟨h.2.2.1.kept hq, h.2.2.2.1.kept hq, h.2.2.2.2.1.kept hq, h.2.2.2.2.2.kept hq⟩⟩
theorem mq_B.narrow {G : mq_G} {A B : Nat → Prop} {U : State} {H : Heap} (h : mq_B G A U H) (hAB : ∀ q, B q → A q) : mq_B G B U H := ⟨fun b => ⟨(h.1 b).1.narrow hAB, (h.1 b).2.1.narrow hAB, (h.1 b).2.2.narrow hAB⟩, ⟨h.2.1.1.narrow hAB, h.2.1.2.1.narrow hAB, h.2.1.2.2⟩, ⟨h.2.2.1.narrow hAB, h.2.2.2.1.narrow hAB, h.2.2.2.2.1.narrow hAB, h.2.2.2.2.2.narrow hAB⟩⟩
def mq_Z (G : mq_G) (A : Nat → Prop) (U : State) (H : Heap) : Prop := (vx_Zq Bundle.tN "UNASSIGNED_STACK" Bundle.steD A U H ∧ vx_Zq Bundle.tN "SUPPRESSED_SENTINEL" Bundle.listD A U H) ∧ mq_N U ∧ mq_B G A U H
theorem mq_Z.warm {G : mq_G} {A : Nat → Prop} {s U : State} {H : Heap} (hW : s.WarmedH U.vm) (h : mq_Z G A s H) : mq_Z G A U H := ⟨⟨h.1.1.moved hW.alike, h.1.2.moved hW.alike⟩, h.2.1.warm hW, h.2.2.moved hW.alike⟩
theorem mq_Z.kept {G : mq_G} {A : Nat → Prop} {U : State} {H H1 : Heap} (h : mq_Z G A U H) (hq : ∀ a : Nat, a < H.size → ¬ A a → H1[a]? = H[a]?) : mq_Z G A U H1 := ⟨⟨h.1.1.kept hq, h.1.2.kept hq⟩, h.2.1, h.2.2.kept hq⟩
theorem mq_Z.narrow {G : mq_G} {A B : Nat → Prop} {U : State} {H : Heap} (h : mq_Z G A U H) (hAB : ∀ q, B q → A q) : mq_Z G B U H := ⟨⟨h.1.1.narrow hAB, h.1.2.narrow hAB⟩, h.2.1, h.2.2.narrow hAB⟩
theorem mq_str {G : mq_G} {A : Nat → Prop} {s : State} {H : Heap} (h : mq_Z G A s H) {own tx : String} {k : Nat} (hm : (own, k, tx) ∈ mq_Sl) : ∃ a, vk_R own k tx a s := h.2.1.1 (own, k, tx) hm
theorem mq_cast {G : mq_G} {A : Nat → Prop} {s : State} {H : Heap} (h : mq_Z G A s H) {C T : String} (hm : (C, T) ∈ mq_Cl) : va_Nw (.castable C T) s := h.2.1.2.1 (C, T) hm
theorem mq_nestM {G : mq_G} {A : Nat → Prop} {s : State} {H : Heap} (h : mq_Z G A s H) {own host : String} {k : Nat} {y : MethodName} (hm : (own, k, y, host) ∈ mq_Ml) : va_Nw (.methodLinkNest own k y host) s := h.2.1.2.2.1 (own, k, y, host) hm
theorem mq_nestF {G : mq_G} {A : Nat → Prop} {s : State} {H : Heap} (h : mq_Z G A s H) {own ref n d host : String} {k : Nat} (hm : (own, k, ref, n, d, host) ∈ mq_Fl) : va_Nw (.fieldLinkNest own k ref n d host) s := h.2.1.2.2.2.1 (own, k, ref, n, d, host) hm
theorem mq_itf {G : mq_G} {A : Nat → Prop} {s : State} {H : Heap} (h : mq_Z G A s H) {C : String} {x y : MethodName} (hm : (C, x, y) ∈ mq_Il) : va_Fw C x y s := h.2.1.2.2.2.2.1 (C, x, y) hm
theorem mq_over {G : mq_G} {A : Nat → Prop} {s : State} {H : Heap} {args : Array Value} (h : mq_Z G A s H) {C : String} (hm : C ∈ mq_Al) : (Cond.arrayOver (.object C)).before args s = true := va_AO.use (h.2.1.2.2.2.2.2.2 C hm)
theorem mq_mir {G : mq_G} {A : Nat → Prop} {s : State} {H : Heap} (h : mq_Z G A s H) : va_Mi "[Ljava/lang/Object;" (sM G) s := h.2.2.2.1.2.2
theorem mq_dec {G : mq_G} {A : Nat → Prop} {s : State} {H : Heap} {args : Array Value} (h : mq_Z G A s H) : (Cond.declares ⟨"java/lang/Object", "getClass", "()Ljava/lang/Class;"⟩).before args s = true := va_Nw.use rfl (h.2.1.2.2.2.2.2.1 _ (by decide))
theorem mq_hat {G : mq_G} {A : Nat → Prop} {s : State} {H : Heap} {args : Array Value} {L : List Cond} (hZ : mq_Z G A s H) (h1 : ∀ w ∈ L.filter goodWord, w.before args s = true) (h2 : ∀ w ∈ L.filter (fun w => !goodWord w), w ∈ mq_Cl.map (fun x => Cond.castable x.1 x.2) ++ mq_Dl.map Cond.declares) : ∀ w ∈ L, w.before args s = true :=
  vx_hat h1 h2 fun w hw => by
    rcases List.mem_append.mp hw with hw | hw
    · obtain ⟨x, hx, rfl⟩ := List.mem_map.mp hw
      exact va_Nw.use rfl (hZ.2.1.2.1 x hx)
    · obtain ⟨x, hx, rfl⟩ := List.mem_map.mp hw
      exact va_Nw.use rfl (hZ.2.1.2.2.2.2.2.1 x hx)
theorem mq_W.kept {D : va_G} {A : Nat → Prop} {f : mq_F} {H H1 : Heap} (h : mq_W D A f H) (hq : ∀ q : Nat, q < H.size → H1[q]? = H[q]?) : mq_W D A f H1 := fun a e hf => ⟨(h a e hf).1, (h a e hf).2.kept (hq a (h.lt hf))⟩
/-- what every method is called with: classes, statics, its world (all in A), and all that is new lies in A -/
def mq_I (G : mq_G) (A : Nat → Prop) (f : mq_F) (U : State) : Prop := va_K G.1 vwCl (mq_T G.2) U ∧ mq_Z G A U U.heap ∧ mq_W G.1 A f U.heap ∧ ∀ q : Nat, U.heap.size ≤ q → A q
abbrev mq_Pc (G : mq_G) (A : Nat → Prop) (f : mq_F) (P : Prop) (av : List Value) : Array Value → State → Prop := va_Pc av (fun U => mq_I G A f U ∧ P)
abbrev mq_Qi (G : mq_G) (A : Nat → Prop) (post : Int32 → mq_F → Prop) : Array Value → State → Outcome → State → Prop := va_Qi post (fun f t => mq_W G.1 A f t.heap) A
abbrev mq_Ql (G : mq_G) (A : Nat → Prop) (post : Int64 → mq_F → Prop) : Array Value → State → Outcome → State → Prop := va_Ql post (fun f t => mq_W G.1 A f t.heap) A
abbrev mq_Qf (G : mq_G) (A : Nat → Prop) (post : UInt32 → mq_F → Prop) : Array Value → State → Outcome → State → Prop := va_Qf post (fun f t => mq_W G.1 A f t.heap) A
abbrev mq_Qd (G : mq_G) (A : Nat → Prop) (post : UInt64 → mq_F → Prop) : Array Value → State → Outcome → State → Prop := va_Qd post (fun f t => mq_W G.1 A f t.heap) A
abbrev mq_Qv (G : mq_G) (A : Nat → Prop) (post : mq_F → Prop) : Array Value → State → Outcome → State → Prop := va_Qv post (fun f t => mq_W G.1 A f t.heap) A
abbrev mq_Qq (G : mq_G) (A : Nat → Prop) (post : Option Nat → mq_F → Prop) : Array Value → State → Outcome → State → Prop := va_Qq post (fun f t => mq_W G.1 A f t.heap) A
abbrev mq_X (G : mq_G) (A : Nat → Prop) (px : String → mq_F → Prop) : String → State → State → Prop := vx_X (fun _ : mq_F => True) (fun E f t => px E f ∧ mq_W G.1 A f t.heap) A
section MQ1
variable {s : State} {H : Heap} {locs : List Loc} {G : mq_G} {A : Nat → Prop} {f : mq_F} {P : Prop}
theorem mq_blind {av : List Value} : FrameBlind (mq_Pc G A f P av) := fun a U g mk q => by
  obtain ⟨q0, ⟨q1, q2, q3, q4⟩, q5⟩ := q
  exact ⟨q0, ⟨va_K.moved (u := U) (U := U.calling g mk a) (Vm.Alike.refl U.vm) q1, mq_Z.warm (s := U) (U := U.calling g mk a) (State.WarmedH.refl U) q2, q3, q4⟩, q5⟩
theorem mq_at (hK : va_K G.1 vwCl (mq_T G.2) s) (hZ : mq_Z G A s s.heap) (hS : va_S A s.heap H locs) (hA : ∀ q : Nat, s.heap.size ≤ q → A q) (hM : mq_W G.1 A f H) (hp : P) (av : List Value) : ∀ U : State, U.heap = H → s.WarmedH U.vm → mq_Pc G A f P av av.toArray U := fun U hU hW =>
  ⟨rfl, ⟨va_K.moved hW.alike hK, by rw [hU]; exact mq_Z.warm hW (hZ.kept hS.2.1), by rw [hU]; exact hM, fun q h => hA q (Nat.le_trans hS.1 (by rw [hU] at h; exact h))⟩, hp⟩
theorem mq_preS (hK : va_K G.1 vwCl (mq_T G.2) s) (hZ : mq_Z G A s s.heap) (hS : va_S A s.heap H locs) (hA : ∀ q : Nat, s.heap.size ≤ q → A q) (hM : mq_W G.1 A f H) (hp : P) (av : List Value) : PreS s H (mq_Pc G A f P av) av := ⟨mq_blind, mq_at hK hZ hS hA hM hp av⟩
theorem mq_recv (hK : va_K G.1 vwCl (mq_T G.2) s) (hM : mq_W G.1 A f H) {a ci : Nat} {fs : List Value} {q : vw_C} (hf : f a = some (.inr (ci, fs))) (hc : vwCl[ci]? = some q) : ∃ cell : Cell, H[a]? = some cell ∧ cell.vm.isStatics = false ∧ s.vm.findClass q.1 = some cell.cls := va_recv hK (mq_one hM hf) (q0 := 0) hc rfl
theorem mq_preV (hK : va_K G.1 vwCl (mq_T G.2) s) (hZ : mq_Z G A s s.heap) (hS : va_S A s.heap H locs) (hA : ∀ q : Nat, s.heap.size ≤ q → A q) (hM : mq_W G.1 A f H) {a ci : Nat} {fs : List Value} {q : vw_C} (hf : f a = some (.inr (ci, fs))) (hc : vwCl[ci]? = some q) (hp : P) (av : List Value) : PreV s H q.1 a (mq_Pc G A f P (.ref a :: av)) av := ⟨mq_blind, mq_recv hK hM hf hc, mq_at hK hZ hS hA hM hp (.ref a :: av)⟩
end MQ1
section MQ2x
variable {p : Program} {l : Launch} {e : Env} {R : Room} {s : State} {m : MethodId} {args : Array Value} {below : List Frame} {meth : Method} {c : Code} {H : Heap} {locs : List Loc} {cells slots : Nat} {Q : State → Prop}
variable {mc ms : Nat} {free : Addr → Prop} {A0 A1 : Nat → Prop} {H0 : Heap} {a : Array Value} {pc : Nat} {ls : Array Slot} {st0 rest : List Value}
theorem vx_callq {S SX : Type} {post : Option Nat → S → Prop} {px : SX → Prop} {B : S → State → Prop} {BX : String → SX → State → Prop} {AX : Nat → Prop} (hr : vx_Run p l e R s m args below meth c H locs cells slots mc ms (F0 m pc ls st0) rest (va_Qq post B A1 a) (vx_X px BX AX) free) (hS : va_S A0 H0 H locs) (hA : ∀ q, q < H.size → A1 q → A0 q) (hf : ∀ q, free q → A0 q) (hAX : ∀ q, q < H.size → AX q → A0 q)
    (kx : ∀ (E : String) (ce : Cell) (q9 : Addr) (u : SX) (t : State) (H1 : Heap) (locs1 : List Loc), t.heap = H1 → s.vm.Alike t.vm → px u → BX E u t → H.size ≤ H1.size → (∀ q : Nat, q < H.size → ¬ AX q → H1[q]? = H[q]?) → va_S A0 H0 H1 locs1 → H1[q9]? = some ce → ce.vm = .none → s.vm.findClass E = some ce.cls → vx_W p l e R s m args below meth c H1 locs1 (cells + mc) (slots + ms) Q (F0 m pc ls rest) q9)
    (kk : ∀ (r : Option Nat) (u : S) (t : State) (H1 : Heap) (locs1 : List Loc), t.heap = H1 → s.vm.Alike t.vm → post r u → B u t → H.size ≤ H1.size → (∀ q : Nat, q < H.size → ¬ A1 q → H1[q]? = H[q]?) → va_S A0 H0 H1 locs1 → W p l e R s m args below meth c H1 locs1 (cells + mc) (slots + ms) Q (F0 m (pc + 3) ls (va_rf r :: rest))) : W p l e R s m args below meth c H locs cells slots Q (F0 m pc ls st0) := by
  intro T hT X
  rcases hr T hT X with ⟨v, st₀, t, T', L, h0, X', hL, e1, e2, ⟨⟨r, u, hv, hp, hb⟩, hF⟩, st⟩ | ⟨q, st₀, t, T', L, E, ce, h0, X', hL, e1, e2, ⟨u, hp, hb, hF⟩, hce, hcv, hcl, st⟩
  · cases hv
    obtain ⟨k1, k2, k3⟩ := vx_keep h0 e1 hS hA hf hL hF
    obtain ⟨t2, a1, b1⟩ := kk r u t T'.heap (locs ++ L) e1.symm (by rw [← e2]; exact X'.warmed.alike) hp hb k1 k2 k3 T' rfl X'
    exact ⟨t2, st t2 a1, b1⟩
  · obtain ⟨k1, k2, k3⟩ := vx_keep h0 e1 hS hAX hf hL hF
    obtain ⟨t2, a1, b1⟩ := kx E ce q u t T'.heap (locs ++ L) e1.symm (by rw [← e2]; exact X'.warmed.alike) hp hb k1 k2 k3 (by rw [e1]; exact hce) hcv hcl T' rfl X'
    exact ⟨t2, st.trans a1, b1⟩
end MQ2x
section MQ2
variable {p : Program} {l : Launch} {e : Env} {R : Room} {s : State} {m : MethodId} {args : Array Value} {below : List Frame} {meth : Method} {c : Code} {H : Heap} {locs : List Loc} {cells slots : Nat} {Q : State → Prop}
variable {cc : ByteArray} {pc : Nat} {ls : Array Slot} {rest st0 : List Value} {G : mq_G} {A : Nat → Prop} {f : mq_F} {a : Nat} {av : Array Value} {mc ms : Nat}
theorem mq_calli {post : Int32 → mq_F → Prop} (hr : va_Run p l e R s m args below meth c H locs cells slots mc ms (F0 m pc ls st0) rest (mq_Qi G A post av) A) (hS : va_S A s.heap H locs)
    (kk : ∀ (r : Int32) (g : mq_F) (H1 : Heap) (locs1 : List Loc), post r g → mq_W G.1 A g H1 → va_S A s.heap H1 locs1 → W p l e R s m args below meth c H1 locs1 (cells + mc) (slots + ms) Q (F0 m (pc + 3) ls (.int r :: rest))) : W p l e R s m args below meth c H locs cells slots Q (F0 m pc ls st0) :=
  va_calli hr hS (fun q _ h => h) (fun q h => h) fun r g t H1 locs1 ht _ hp hB _ _ hS1 => kk r g H1 locs1 hp (ht ▸ hB) hS1
theorem mq_calll {post : Int64 → mq_F → Prop} (hr : va_Run p l e R s m args below meth c H locs cells slots mc ms (F0 m pc ls st0) rest (mq_Ql G A post av) A) (hS : va_S A s.heap H locs)
    (kk : ∀ (r : Int64) (g : mq_F) (H1 : Heap) (locs1 : List Loc), post r g → mq_W G.1 A g H1 → va_S A s.heap H1 locs1 → W p l e R s m args below meth c H1 locs1 (cells + mc) (slots + ms) Q (F0 m (pc + 3) ls (.long r :: rest))) : W p l e R s m args below meth c H locs cells slots Q (F0 m pc ls st0) :=
  va_calll hr hS (fun q _ h => h) (fun q h => h) fun r g t H1 locs1 ht _ hp hB _ _ hS1 => kk r g H1 locs1 hp (ht ▸ hB) hS1
theorem mq_callf {post : UInt32 → mq_F → Prop} (hr : va_Run p l e R s m args below meth c H locs cells slots mc ms (F0 m pc ls st0) rest (mq_Qf G A post av) A) (hS : va_S A s.heap H locs)
    (kk : ∀ (r : UInt32) (g : mq_F) (H1 : Heap) (locs1 : List Loc), post r g → mq_W G.1 A g H1 → va_S A s.heap H1 locs1 → W p l e R s m args below meth c H1 locs1 (cells + mc) (slots + ms) Q (F0 m (pc + 3) ls (.float r :: rest))) : W p l e R s m args below meth c H locs cells slots Q (F0 m pc ls st0) :=
  va_callf hr hS (fun q _ h => h) (fun q h => h) fun r g t H1 locs1 ht _ hp hB _ _ hS1 => kk r g H1 locs1 hp (ht ▸ hB) hS1
theorem mq_calld {post : UInt64 → mq_F → Prop} (hr : va_Run p l e R s m args below meth c H locs cells slots mc ms (F0 m pc ls st0) rest (mq_Qd G A post av) A) (hS : va_S A s.heap H locs)
    (kk : ∀ (r : UInt64) (g : mq_F) (H1 : Heap) (locs1 : List Loc), post r g → mq_W G.1 A g H1 → va_S A s.heap H1 locs1 → W p l e R s m args below meth c H1 locs1 (cells + mc) (slots + ms) Q (F0 m (pc + 3) ls (.double r :: rest))) : W p l e R s m args below meth c H locs cells slots Q (F0 m pc ls st0) :=
  va_calld hr hS (fun q _ h => h) (fun q h => h) fun r g t H1 locs1 ht _ hp hB _ _ hS1 => kk r g H1 locs1 hp (ht ▸ hB) hS1
theorem mq_callq {post : Option Nat → mq_F → Prop} (hr : va_Run p l e R s m args below meth c H locs cells slots mc ms (F0 m pc ls st0) rest (mq_Qq G A post av) A) (hS : va_S A s.heap H locs)
    (kk : ∀ (r : Option Nat) (g : mq_F) (H1 : Heap) (locs1 : List Loc), post r g → mq_W G.1 A g H1 → va_S A s.heap H1 locs1 → W p l e R s m args below meth c H1 locs1 (cells + mc) (slots + ms) Q (F0 m (pc + 3) ls (va_rf r :: rest))) : W p l e R s m args below meth c H locs cells slots Q (F0 m pc ls st0) :=
  va_callq hr hS (fun q _ h => h) (fun q h => h) fun r g t H1 locs1 ht _ hp hB _ _ hS1 => kk r g H1 locs1 hp (ht ▸ hB) hS1
theorem mq_callv {post : mq_F → Prop} (hr : va_Run p l e R s m args below meth c H locs cells slots mc ms (F0 m pc ls st0) rest (mq_Qv G A post av) A) (hS : va_S A s.heap H locs)
    (kk : ∀ (g : mq_F) (H1 : Heap) (locs1 : List Loc), post g → mq_W G.1 A g H1 → va_S A s.heap H1 locs1 → W p l e R s m args below meth c H1 locs1 (cells + mc) (slots + ms) Q (F0 m (pc + 3) ls rest)) : W p l e R s m args below meth c H locs cells slots Q (F0 m pc ls st0) :=
  va_callv hr hS (fun q _ h => h) (fun q h => h) fun g t H1 locs1 ht _ hp hB _ _ hS1 => kk g H1 locs1 hp (ht ▸ hB) hS1
theorem mq_xcalli {post : Int32 → mq_F → Prop} {px : String → mq_F → Prop} (hr : vx_Run p l e R s m args below meth c H locs cells slots mc ms (F0 m pc ls st0) rest (mq_Qi G A post av) (mq_X G A px) A) (hS : va_S A s.heap H locs)
    (kx : ∀ (E : String) (ce : Cell) (q9 : Addr) (g : mq_F) (H1 : Heap) (locs1 : List Loc), px E g → mq_W G.1 A g H1 → va_S A s.heap H1 locs1 → H1[q9]? = some ce → ce.vm = .none → s.vm.findClass E = some ce.cls → vx_W p l e R s m args below meth c H1 locs1 (cells + mc) (slots + ms) Q (F0 m pc ls rest) q9)
    (kk : ∀ (r : Int32) (g : mq_F) (H1 : Heap) (locs1 : List Loc), post r g → mq_W G.1 A g H1 → va_S A s.heap H1 locs1 → W p l e R s m args below meth c H1 locs1 (cells + mc) (slots + ms) Q (F0 m (pc + 3) ls (.int r :: rest))) : W p l e R s m args below meth c H locs cells slots Q (F0 m pc ls st0) :=
  vx_calli hr hS (fun q _ h => h) (fun q h => h) (fun q _ h => h) (fun E ce q9 g t H1 locs1 ht _ _ hB _ _ hS1 h1 h2 h3 => kx E ce q9 g H1 locs1 hB.1 (ht ▸ hB.2) hS1 h1 h2 h3) fun r g t H1 locs1 ht _ hp hB _ _ hS1 => kk r g H1 locs1 hp (ht ▸ hB) hS1
theorem mq_xcalll {post : Int64 → mq_F → Prop} {px : String → mq_F → Prop} (hr : vx_Run p l e R s m args below meth c H locs cells slots mc ms (F0 m pc ls st0) rest (mq_Ql G A post av) (mq_X G A px) A) (hS : va_S A s.heap H locs)
    (kx : ∀ (E : String) (ce : Cell) (q9 : Addr) (g : mq_F) (H1 : Heap) (locs1 : List Loc), px E g → mq_W G.1 A g H1 → va_S A s.heap H1 locs1 → H1[q9]? = some ce → ce.vm = .none → s.vm.findClass E = some ce.cls → vx_W p l e R s m args below meth c H1 locs1 (cells + mc) (slots + ms) Q (F0 m pc ls rest) q9)
    (kk : ∀ (r : Int64) (g : mq_F) (H1 : Heap) (locs1 : List Loc), post r g → mq_W G.1 A g H1 → va_S A s.heap H1 locs1 → W p l e R s m args below meth c H1 locs1 (cells + mc) (slots + ms) Q (F0 m (pc + 3) ls (.long r :: rest))) : W p l e R s m args below meth c H locs cells slots Q (F0 m pc ls st0) :=
  vx_calll hr hS (fun q _ h => h) (fun q h => h) (fun q _ h => h) (fun E ce q9 g t H1 locs1 ht _ _ hB _ _ hS1 h1 h2 h3 => kx E ce q9 g H1 locs1 hB.1 (ht ▸ hB.2) hS1 h1 h2 h3) fun r g t H1 locs1 ht _ hp hB _ _ hS1 => kk r g H1 locs1 hp (ht ▸ hB) hS1
theorem mq_xcallf {post : UInt32 → mq_F → Prop} {px : String → mq_F → Prop} (hr : vx_Run p l e R s m args below meth c H locs cells slots mc ms (F0 m pc ls st0) rest (mq_Qf G A post av) (mq_X G A px) A) (hS : va_S A s.heap H locs)
    (kx : ∀ (E : String) (ce : Cell) (q9 : Addr) (g : mq_F) (H1 : Heap) (locs1 : List Loc), px E g → mq_W G.1 A g H1 → va_S A s.heap H1 locs1 → H1[q9]? = some ce → ce.vm = .none → s.vm.findClass E = some ce.cls → vx_W p l e R s m args below meth c H1 locs1 (cells + mc) (slots + ms) Q (F0 m pc ls rest) q9)
    (kk : ∀ (r : UInt32) (g : mq_F) (H1 : Heap) (locs1 : List Loc), post r g → mq_W G.1 A g H1 → va_S A s.heap H1 locs1 → W p l e R s m args below meth c H1 locs1 (cells + mc) (slots + ms) Q (F0 m (pc + 3) ls (.float r :: rest))) : W p l e R s m args below meth c H locs cells slots Q (F0 m pc ls st0) :=
  vx_callf hr hS (fun q _ h => h) (fun q h => h) (fun q _ h => h) (fun E ce q9 g t H1 locs1 ht _ _ hB _ _ hS1 h1 h2 h3 => kx E ce q9 g H1 locs1 hB.1 (ht ▸ hB.2) hS1 h1 h2 h3) fun r g t H1 locs1 ht _ hp hB _ _ hS1 => kk r g H1 locs1 hp (ht ▸ hB) hS1
theorem mq_xcalld {post : UInt64 → mq_F → Prop} {px : String → mq_F → Prop} (hr : vx_Run p l e R s m args below meth c H locs cells slots mc ms (F0 m pc ls st0) rest (mq_Qd G A post av) (mq_X G A px) A) (hS : va_S A s.heap H locs)
    (kx : ∀ (E : String) (ce : Cell) (q9 : Addr) (g : mq_F) (H1 : Heap) (locs1 : List Loc), px E g → mq_W G.1 A g H1 → va_S A s.heap H1 locs1 → H1[q9]? = some ce → ce.vm = .none → s.vm.findClass E = some ce.cls → vx_W p l e R s m args below meth c H1 locs1 (cells + mc) (slots + ms) Q (F0 m pc ls rest) q9)
    (kk : ∀ (r : UInt64) (g : mq_F) (H1 : Heap) (locs1 : List Loc), post r g → mq_W G.1 A g H1 → va_S A s.heap H1 locs1 → W p l e R s m args below meth c H1 locs1 (cells + mc) (slots + ms) Q (F0 m (pc + 3) ls (.double r :: rest))) : W p l e R s m args below meth c H locs cells slots Q (F0 m pc ls st0) :=
  vx_calld hr hS (fun q _ h => h) (fun q h => h) (fun q _ h => h) (fun E ce q9 g t H1 locs1 ht _ _ hB _ _ hS1 h1 h2 h3 => kx E ce q9 g H1 locs1 hB.1 (ht ▸ hB.2) hS1 h1 h2 h3) fun r g t H1 locs1 ht _ hp hB _ _ hS1 => kk r g H1 locs1 hp (ht ▸ hB) hS1
theorem mq_xcallq {post : Option Nat → mq_F → Prop} {px : String → mq_F → Prop} (hr : vx_Run p l e R s m args below meth c H locs cells slots mc ms (F0 m pc ls st0) rest (mq_Qq G A post av) (mq_X G A px) A) (hS : va_S A s.heap H locs)
    (kx : ∀ (E : String) (ce : Cell) (q9 : Addr) (g : mq_F) (H1 : Heap) (locs1 : List Loc), px E g → mq_W G.1 A g H1 → va_S A s.heap H1 locs1 → H1[q9]? = some ce → ce.vm = .none → s.vm.findClass E = some ce.cls → vx_W p l e R s m args below meth c H1 locs1 (cells + mc) (slots + ms) Q (F0 m pc ls rest) q9)
    (kk : ∀ (r : Option Nat) (g : mq_F) (H1 : Heap) (locs1 : List Loc), post r g → mq_W G.1 A g H1 → va_S A s.heap H1 locs1 → W p l e R s m args below meth c H1 locs1 (cells + mc) (slots + ms) Q (F0 m (pc + 3) ls (va_rf r :: rest))) : W p l e R s m args below meth c H locs cells slots Q (F0 m pc ls st0) :=
  vx_callq hr hS (fun q _ h => h) (fun q h => h) (fun q _ h => h) (fun E ce q9 g t H1 locs1 ht _ _ hB _ _ hS1 h1 h2 h3 => kx E ce q9 g H1 locs1 hB.1 (ht ▸ hB.2) hS1 h1 h2 h3) fun r g t H1 locs1 ht _ hp hB _ _ hS1 => kk r g H1 locs1 hp (ht ▸ hB) hS1
theorem mq_xcallv {post : mq_F → Prop} {px : String → mq_F → Prop} (hr : vx_Run p l e R s m args below meth c H locs cells slots mc ms (F0 m pc ls st0) rest (mq_Qv G A post av) (mq_X G A px) A) (hS : va_S A s.heap H locs)
    (kx : ∀ (E : String) (ce : Cell) (q9 : Addr) (g : mq_F) (H1 : Heap) (locs1 : List Loc), px E g → mq_W G.1 A g H1 → va_S A s.heap H1 locs1 → H1[q9]? = some ce → ce.vm = .none → s.vm.findClass E = some ce.cls → vx_W p l e R s m args below meth c H1 locs1 (cells + mc) (slots + ms) Q (F0 m pc ls rest) q9)
    (kk : ∀ (g : mq_F) (H1 : Heap) (locs1 : List Loc), post g → mq_W G.1 A g H1 → va_S A s.heap H1 locs1 → W p l e R s m args below meth c H1 locs1 (cells + mc) (slots + ms) Q (F0 m (pc + 3) ls rest)) : W p l e R s m args below meth c H locs cells slots Q (F0 m pc ls st0) :=
  vx_callv hr hS (fun q _ h => h) (fun q h => h) (fun q _ h => h) (fun E ce q9 g t H1 locs1 ht _ _ hB _ _ hS1 h1 h2 h3 => kx E ce q9 g H1 locs1 hB.1 (ht ▸ hB.2) hS1 h1 h2 h3) fun g t H1 locs1 ht _ hp hB _ _ hS1 => kk g H1 locs1 hp (ht ▸ hB) hS1
theorem mq_get (hexec : p.tables.exec = Jvm.exec) (hb : c.code = cc) {own ref C : String} {T : u_T} {N ci index : Nat} {Ts : List Cond} (hts : ∀ w ∈ Ts, w.before args s = true) (hin : ∀ w ∈ u_ws C T N, w ∈ Ts) (hown : s.vm.findClass own = some m.cls) (hK : va_K G.1 vwCl (mq_T G.2) s) (hM : mq_W G.1 A f H) {fs : List Value} (hf : f a = some (.inr (ci, fs))) (hc : vwCl[ci]? = some (C, T, N)) (k : Nat) (hk : k < N) (hlink : (Cond.fieldLink own index ref (T k).2.1 (T k).2.2.1).before args s = true) (hsame : ∀ x, s.fieldFound? (T k).1 (T k).2.1 (T k).2.2.1 = some x → s.fieldFound? ref (T k).2.1 (T k).2.2.1 = some x) {v : Value} (hv : fs[k]? = some v) (hdg : decode cc pc = .ok (.getfield index, 3))
    (kk : W p l e R s m args below meth c H locs cells slots Q (F0 m (pc + 3) ls (v :: rest))) : W p l e R s m args below meth c H locs cells slots Q (F0 m pc ls (.ref a :: rest)) :=
  va_get hexec hb hts hin hown hK (mq_one hM hf) 0 rfl hc k hk hlink hsame hv hdg kk
theorem mq_getN (hexec : p.tables.exec = Jvm.exec) (hb : c.code = cc) {own ref C host : String} {T : u_T} {N ci index : Nat} {Ts : List Cond} (hts : ∀ w ∈ Ts, w.before args s = true) (hin : ∀ w ∈ u_ws C T N, w ∈ Ts) (hown : s.vm.findClass own = some m.cls) (hK : va_K G.1 vwCl (mq_T G.2) s) (hM : mq_W G.1 A f H) {fs : List Value} (hf : f a = some (.inr (ci, fs))) (hc : vwCl[ci]? = some (C, T, N)) (k : Nat) (hk : k < N) (hlink : (Cond.fieldLinkNest own index ref (T k).2.1 (T k).2.2.1 host).before args s = true) (hsame : ∀ x, s.fieldFound? (T k).1 (T k).2.1 (T k).2.2.1 = some x → s.fieldFound? ref (T k).2.1 (T k).2.2.1 = some x) {v : Value} (hv : fs[k]? = some v) (hdg : decode cc pc = .ok (.getfield index, 3))
    (kk : W p l e R s m args below meth c H locs cells slots Q (F0 m (pc + 3) ls (v :: rest))) : W p l e R s m args below meth c H locs cells slots Q (F0 m pc ls (.ref a :: rest)) :=
  va_getN hexec hb hts hin hown hK (mq_one hM hf) 0 rfl hc k hk hlink hsame hv hdg kk
theorem mq_put (hexec : p.tables.exec = Jvm.exec) (hb : c.code = cc) {own ref C : String} {T : u_T} {N ci index : Nat} {Ts : List Cond} (hts : ∀ w ∈ Ts, w.before args s = true) (hin : ∀ w ∈ u_ws C T N, w ∈ Ts) (ty0 : Nat → FieldType) (hty : ∀ k, k < N → parseFieldDescriptor (T k).2.2.1 = some (ty0 k)) (hnm : ∀ a, a < N → ∀ b, b < N → a ≠ b → (T a).2.1 ≠ (T b).2.1) (hown : s.vm.findClass own = some m.cls) (hK : va_K G.1 vwCl (mq_T G.2) s) (hM : mq_W G.1 A f H) (hS : va_S A s.heap H locs) {fs : List Value} (hf : f a = some (.inr (ci, fs))) (hc : vwCl[ci]? = some (C, T, N)) (k : Nat) (hk : k < N) (hlink : (Cond.fieldLink own index ref (T k).2.1 (T k).2.2.1).before args s = true) (hsame : ∀ x, s.fieldFound? (T k).1 (T k).2.1 (T k).2.2.1 = some x → s.fieldFound? ref (T k).2.1 (T k).2.2.1 = some x) (hfin : (T k).2.2.2 = false) {ty : FieldType} {v : Value} (hd : parseFieldDescriptor (T k).2.2.1 = some ty) (hn : narrow ty v = v) (hfit : fits ty v = true) (hl : k < fs.length)
    (hdg : decode cc pc = .ok (.putfield index, 3)) {fs' : List Value} (hfs : fs.set k v = fs') (kk : ∀ (g : mq_F) (H1 : Heap) (locs1 : List Loc), g = mq_up f a (.inr (ci, fs')) → mq_W G.1 A g H1 → va_S A s.heap H1 locs1 → W p l e R s m args below meth c H1 locs1 cells slots Q (F0 m (pc + 3) ls rest)) : W p l e R s m args below meth c H locs cells slots Q (F0 m pc ls (v :: .ref a :: rest)) := by
  subst hfs
  obtain ⟨q0, hq⟩ := mq_get0 (hM.lt hf) hf
  exact va_put hexec hb hts hin ty0 hty hnm hown hK (hM.P _) (hM.D _) hS q0 hq hc k hk hlink hsame hfin hd hn hfit hl hdg fun H1 locs1 hP _ hS1 => kk _ H1 locs1 rfl (mq_set hM hf hq hP) hS1
theorem mq_putF (hexec : p.tables.exec = Jvm.exec) (hb : c.code = cc) {own ref C : String} {T : u_T} {N ci index : Nat} {Ts : List Cond} (hts : ∀ w ∈ Ts, w.before args s = true) (hin : ∀ w ∈ u_ws C T N, w ∈ Ts) (ty0 : Nat → FieldType) (hty : ∀ k, k < N → parseFieldDescriptor (T k).2.2.1 = some (ty0 k)) (hnm : ∀ a, a < N → ∀ b, b < N → a ≠ b → (T a).2.1 ≠ (T b).2.1) (hown : s.vm.findClass own = some m.cls) (hK : va_K G.1 vwCl (mq_T G.2) s) (hM : mq_W G.1 A f H) (hS : va_S A s.heap H locs) {fs : List Value} (hf : f a = some (.inr (ci, fs))) (hc : vwCl[ci]? = some (C, T, N)) (k : Nat) (hk : k < N) (hlink : (Cond.fieldLink own index ref (T k).2.1 (T k).2.2.1).before args s = true) (hsame : ∀ x, s.fieldFound? (T k).1 (T k).2.1 (T k).2.2.1 = some x → s.fieldFound? ref (T k).2.1 (T k).2.2.1 = some x) (hfin : (T k).2.2.2 = true) (hin2 : meth.name = "<init>") (hdecl : (T k).1 = own) {ty : FieldType} {v : Value} (hd : parseFieldDescriptor (T k).2.2.1 = some ty) (hn : narrow ty v = v) (hfit : fits ty v = true) (hl : k < fs.length)
    (hdg : decode cc pc = .ok (.putfield index, 3)) {fs' : List Value} (hfs : fs.set k v = fs') (kk : ∀ (g : mq_F) (H1 : Heap) (locs1 : List Loc), g = mq_up f a (.inr (ci, fs')) → mq_W G.1 A g H1 → va_S A s.heap H1 locs1 → W p l e R s m args below meth c H1 locs1 cells slots Q (F0 m (pc + 3) ls rest)) : W p l e R s m args below meth c H locs cells slots Q (F0 m pc ls (v :: .ref a :: rest)) := by
  subst hfs
  obtain ⟨q0, hq⟩ := mq_get0 (hM.lt hf) hf
  exact va_putF hexec hb hts hin ty0 hty hnm hown hK (hM.P _) (hM.D _) hS q0 hq hc k hk hlink hsame hfin hin2 hdecl hd hn hfit hl hdg fun H1 locs1 hP _ hS1 => kk _ H1 locs1 rfl (mq_set hM hf hq hP) hS1
theorem mq_putN (hexec : p.tables.exec = Jvm.exec) (hb : c.code = cc) {own ref C host : String} {T : u_T} {N ci index : Nat} {Ts : List Cond} (hts : ∀ w ∈ Ts, w.before args s = true) (hin : ∀ w ∈ u_ws C T N, w ∈ Ts) (ty0 : Nat → FieldType) (hty : ∀ k, k < N → parseFieldDescriptor (T k).2.2.1 = some (ty0 k)) (hnm : ∀ a, a < N → ∀ b, b < N → a ≠ b → (T a).2.1 ≠ (T b).2.1) (hown : s.vm.findClass own = some m.cls) (hK : va_K G.1 vwCl (mq_T G.2) s) (hM : mq_W G.1 A f H) (hS : va_S A s.heap H locs) {fs : List Value} (hf : f a = some (.inr (ci, fs))) (hc : vwCl[ci]? = some (C, T, N)) (k : Nat) (hk : k < N) (hlink : (Cond.fieldLinkNest own index ref (T k).2.1 (T k).2.2.1 host).before args s = true) (hsame : ∀ x, s.fieldFound? (T k).1 (T k).2.1 (T k).2.2.1 = some x → s.fieldFound? ref (T k).2.1 (T k).2.2.1 = some x) (hfin : (T k).2.2.2 = false) {ty : FieldType} {v : Value} (hd : parseFieldDescriptor (T k).2.2.1 = some ty) (hn : narrow ty v = v) (hfit : fits ty v = true) (hl : k < fs.length)
    (hdg : decode cc pc = .ok (.putfield index, 3)) {fs' : List Value} (hfs : fs.set k v = fs') (kk : ∀ (g : mq_F) (H1 : Heap) (locs1 : List Loc), g = mq_up f a (.inr (ci, fs')) → mq_W G.1 A g H1 → va_S A s.heap H1 locs1 → W p l e R s m args below meth c H1 locs1 cells slots Q (F0 m (pc + 3) ls rest)) : W p l e R s m args below meth c H locs cells slots Q (F0 m pc ls (v :: .ref a :: rest)) := by
  subst hfs
  obtain ⟨q0, hq⟩ := mq_get0 (hM.lt hf) hf
  exact va_putN hexec hb hts hin ty0 hty hnm hown hK (hM.P _) (hM.D _) hS q0 hq hc k hk hlink hsame hfin hd hn hfit hl hdg fun H1 locs1 hP _ hS1 => kk _ H1 locs1 rfl (mq_set hM hf hq hP) hS1
theorem mq_iald (hexec : p.tables.exec = Jvm.exec) (hb : c.code = cc) (hK : va_K G.1 vwCl (mq_T G.2) s) (hM : mq_W G.1 A f H) {n : Nat} {g : Nat → Int32} (hf : f a = some (.inl (G.2 0, n, .inl g))) {i : Int32} (hin : vp_in i n) (hdg : decode cc pc = .ok (.iaload, 1))
    (kk : W p l e R s m args below meth c H locs cells slots Q (F0 m (pc + 1) ls (.int (g i.toNatClampNeg) :: rest))) : W p l e R s m args below meth c H locs cells slots Q (F0 m pc ls (.int i :: .ref a :: rest)) :=
  va_iald hexec hb hK (mq_one hM hf) 0 0 rfl rfl hin hdg kk
theorem mq_zald (hexec : p.tables.exec = Jvm.exec) (hb : c.code = cc) (hK : va_K G.1 vwCl (mq_T G.2) s) (hM : mq_W G.1 A f H) {n : Nat} {g : Nat → Int32} (hf : f a = some (.inl (G.2 2, n, .inl g))) {i : Int32} (hin : vp_in i n) (hdg : decode cc pc = .ok (.baload, 1))
    (kk : W p l e R s m args below meth c H locs cells slots Q (F0 m (pc + 1) ls (.int (g i.toNatClampNeg) :: rest))) : W p l e R s m args below meth c H locs cells slots Q (F0 m pc ls (.int i :: .ref a :: rest)) :=
  va_zald hexec hb hK (mq_one hM hf) 0 2 rfl rfl hin hdg kk
theorem mq_lald (hexec : p.tables.exec = Jvm.exec) (hb : c.code = cc) (hK : va_K G.1 vwCl (mq_T G.2) s) (hM : mq_W G.1 A f H) {n : Nat} {g : Nat → Int64} (hf : f a = some (.inl (G.2 1, n, .inr (.inl g)))) {i : Int32} (hin : vp_in i n) (hdg : decode cc pc = .ok (.laload, 1))
    (kk : W p l e R s m args below meth c H locs cells slots Q (F0 m (pc + 1) ls (.long (g i.toNatClampNeg) :: rest))) : W p l e R s m args below meth c H locs cells slots Q (F0 m pc ls (.int i :: .ref a :: rest)) :=
  va_lald hexec hb hK (mq_one hM hf) 0 1 rfl rfl hin hdg kk
theorem mq_dald (hexec : p.tables.exec = Jvm.exec) (hb : c.code = cc) (hK : va_K G.1 vwCl (mq_T G.2) s) (hM : mq_W G.1 A f H) {n : Nat} {g : Nat → UInt64} (hf : f a = some (.inl (G.2 9, n, .inr (.inr (.inr (.inl g)))))) {i : Int32} (hin : vp_in i n) (hdg : decode cc pc = .ok (.daload, 1))
    (kk : W p l e R s m args below meth c H locs cells slots Q (F0 m (pc + 1) ls (.double (g i.toNatClampNeg) :: rest))) : W p l e R s m args below meth c H locs cells slots Q (F0 m pc ls (.int i :: .ref a :: rest)) :=
  va_dald hexec hb hK (mq_one hM hf) 0 9 rfl rfl hin hdg kk
theorem mq_iast (hexec : p.tables.exec = Jvm.exec) (hb : c.code = cc) (hK : va_K G.1 vwCl (mq_T G.2) s) (hM : mq_W G.1 A f H) (hS : va_S A s.heap H locs) {n : Nat} {g : Nat → Int32} (hf : f a = some (.inl (G.2 0, n, .inl g))) {i : Int32} {x : Int32} (hin : vp_in i n) (hdg : decode cc pc = .ok (.iastore, 1))
    (kk : ∀ (f1 : mq_F) (H1 : Heap) (locs1 : List Loc), f1 = mq_up f a (.inl (G.2 0, n, .inl (upd g i.toNatClampNeg x))) → mq_W G.1 A f1 H1 → va_S A s.heap H1 locs1 → W p l e R s m args below meth c H1 locs1 cells slots Q (F0 m (pc + 1) ls rest)) : W p l e R s m args below meth c H locs cells slots Q (F0 m pc ls (.int x :: .int i :: .ref a :: rest)) := by
  obtain ⟨q0, hq⟩ := mq_get0 (hM.lt hf) hf
  exact va_iast hexec hb hK (hM.P _) (hM.D _) hS q0 0 hq rfl hin hdg fun H1 locs1 hP _ hS1 => kk _ H1 locs1 rfl (mq_set hM hf hq hP) hS1
theorem mq_zast (hexec : p.tables.exec = Jvm.exec) (hb : c.code = cc) (hK : va_K G.1 vwCl (mq_T G.2) s) (hM : mq_W G.1 A f H) (hS : va_S A s.heap H locs) {n : Nat} {g : Nat → Int32} (hf : f a = some (.inl (G.2 2, n, .inl g))) {i : Int32} {x : Int32} (hin : vp_in i n) (hdg : decode cc pc = .ok (.bastore, 1))
    (kk : ∀ (f1 : mq_F) (H1 : Heap) (locs1 : List Loc), f1 = mq_up f a (.inl (G.2 2, n, .inl (upd g i.toNatClampNeg (x &&& 1)))) → mq_W G.1 A f1 H1 → va_S A s.heap H1 locs1 → W p l e R s m args below meth c H1 locs1 cells slots Q (F0 m (pc + 1) ls rest)) : W p l e R s m args below meth c H locs cells slots Q (F0 m pc ls (.int x :: .int i :: .ref a :: rest)) := by
  obtain ⟨q0, hq⟩ := mq_get0 (hM.lt hf) hf
  exact va_zast hexec hb hK (hM.P _) (hM.D _) hS q0 2 hq rfl hin hdg fun H1 locs1 hP _ hS1 => kk _ H1 locs1 rfl (mq_set hM hf hq hP) hS1
theorem mq_last (hexec : p.tables.exec = Jvm.exec) (hb : c.code = cc) (hK : va_K G.1 vwCl (mq_T G.2) s) (hM : mq_W G.1 A f H) (hS : va_S A s.heap H locs) {n : Nat} {g : Nat → Int64} (hf : f a = some (.inl (G.2 1, n, .inr (.inl g)))) {i : Int32} {x : Int64} (hin : vp_in i n) (hdg : decode cc pc = .ok (.lastore, 1))
    (kk : ∀ (f1 : mq_F) (H1 : Heap) (locs1 : List Loc), f1 = mq_up f a (.inl (G.2 1, n, .inr (.inl (vp_updL g i.toNatClampNeg x)))) → mq_W G.1 A f1 H1 → va_S A s.heap H1 locs1 → W p l e R s m args below meth c H1 locs1 cells slots Q (F0 m (pc + 1) ls rest)) : W p l e R s m args below meth c H locs cells slots Q (F0 m pc ls (.long x :: .int i :: .ref a :: rest)) := by
  obtain ⟨q0, hq⟩ := mq_get0 (hM.lt hf) hf
  exact va_last hexec hb hK (hM.P _) (hM.D _) hS q0 1 hq rfl hin hdg fun H1 locs1 hP _ hS1 => kk _ H1 locs1 rfl (mq_set hM hf hq hP) hS1
theorem mq_dast (hexec : p.tables.exec = Jvm.exec) (hb : c.code = cc) (hK : va_K G.1 vwCl (mq_T G.2) s) (hM : mq_W G.1 A f H) (hS : va_S A s.heap H locs) {n : Nat} {g : Nat → UInt64} (hf : f a = some (.inl (G.2 9, n, .inr (.inr (.inr (.inl g)))))) {i : Int32} {x : UInt64} (hin : vp_in i n) (hdg : decode cc pc = .ok (.dastore, 1))
    (kk : ∀ (f1 : mq_F) (H1 : Heap) (locs1 : List Loc), f1 = mq_up f a (.inl (G.2 9, n, .inr (.inr (.inr (.inl (vf_upd g i.toNatClampNeg x)))))) → mq_W G.1 A f1 H1 → va_S A s.heap H1 locs1 → W p l e R s m args below meth c H1 locs1 cells slots Q (F0 m (pc + 1) ls rest)) : W p l e R s m args below meth c H locs cells slots Q (F0 m pc ls (.double x :: .int i :: .ref a :: rest)) := by
  obtain ⟨q0, hq⟩ := mq_get0 (hM.lt hf) hf
  exact va_dast hexec hb hK (hM.P _) (hM.D _) hS q0 9 hq rfl hin hdg fun H1 locs1 hP _ hS1 => kk _ H1 locs1 rfl (mq_set hM hf hq hP) hS1
theorem mq_alen (hexec : p.tables.exec = Jvm.exec) (hb : c.code = cc) (hK : va_K G.1 vwCl (mq_T G.2) s) (hM : mq_W G.1 A f H) {t0 : Nat} {x : vp_A} {ty : FieldType} {cA : ClassId} (ht : (mq_T G.2)[t0]? = some (cA, ty)) (hf : f a = some (.inl (cA, x))) {v : Int32} (hv : Int32.ofNat x.1 = v) (hdg : decode cc pc = .ok (.arraylength, 1))
    (kk : W p l e R s m args below meth c H locs cells slots Q (F0 m (pc + 1) ls (.int v :: rest))) : W p l e R s m args below meth c H locs cells slots Q (F0 m pc ls (.ref a :: rest)) :=
  va_alen hexec hb hK (mq_one hM hf) 0 t0 rfl ht hv hdg kk
/-- a row of references: what is read is named by its own fact -/
theorem mq_aald (hexec : p.tables.exec = Jvm.exec) (hb : c.code = cc) (hK : va_K G.1 vwCl (mq_T G.2) s) (hM : mq_W G.1 A f H) {t0 n : Nat} {C : String} {cA : ClassId} {g : Nat → Option Nat} (ht : (mq_T G.2)[t0]? = some (cA, .object C)) (hf : f a = some (.inl (cA, n, .inr (.inr (.inr (.inr g)))))) {i : Int32} (hin : vp_in i n) {v : Value} (hv : va_rf (g i.toNatClampNeg) = v) (hdg : decode cc pc = .ok (.aaload, 1))
    (kk : W p l e R s m args below meth c H locs cells slots Q (F0 m (pc + 1) ls (v :: rest))) : W p l e R s m args below meth c H locs cells slots Q (F0 m pc ls (.int i :: .ref a :: rest)) := by
  subst hv
  exact va_aldq hexec hb hK (mq_one hM hf) 0 t0 rfl ht hin hdg kk
theorem mq_aast (hexec : p.tables.exec = Jvm.exec) (hb : c.code = cc) (hK : va_K G.1 vwCl (mq_T G.2) s) (hM : mq_W G.1 A f H) (hS : va_S A s.heap H locs) {t0 n v ci : Nat} {r : vw_C} {cA : ClassId} {vs : List Value} {g : Nat → Option Nat} (ht : (mq_T G.2)[t0]? = some (cA, .object r.1)) (hf : f a = some (.inl (cA, n, .inr (.inr (.inr (.inr g)))))) (hv : f v = some (.inr (ci, vs))) (hc : vwCl[ci]? = some r) {i : Int32} (hin : vp_in i n) (hdg : decode cc pc = .ok (.aastore, 1))
    (kk : ∀ (f1 : mq_F) (H1 : Heap) (locs1 : List Loc), f1 = mq_up f a (.inl (cA, n, .inr (.inr (.inr (.inr (va_up g i.toNatClampNeg (some v))))))) → mq_W G.1 A f1 H1 → va_S A s.heap H1 locs1 → W p l e R s m args below meth c H1 locs1 cells slots Q (F0 m (pc + 1) ls rest)) : W p l e R s m args below meth c H locs cells slots Q (F0 m pc ls (.ref v :: .int i :: .ref a :: rest)) := by
  obtain ⟨q0, hq⟩ := mq_get0 (hM.lt hf) hf
  obtain ⟨q1, hq1⟩ := mq_get0 (hM.lt hv) hv
  exact va_astq hexec hb hK (hM.P _) (hM.D _) hS q0 t0 q1 ci hq ht hq1 hc hin hdg fun H1 locs1 hP _ hS1 => kk _ H1 locs1 rfl (mq_set hM hf hq hP) hS1
theorem mq_new (hexec : p.tables.exec = Jvm.exec) (hb : c.code = cc) {own C : String} {T : u_T} {N ci index : Nat} {Ts : List Cond} (hts : ∀ w ∈ Ts, w.before args s = true) (hin : ∀ w ∈ u_ws C T N, w ∈ Ts) (ty : Nat → FieldType) (hty : ∀ k, k < N → parseFieldDescriptor (T k).2.2.1 = some (ty k)) (hown : s.vm.findClass own = some m.cls) (hcl : (Cond.classLink own index C).before args s = true) (hinst : (Cond.instantiable C N).before args s = true) (hini : (Cond.initialized C).before args s = true)
    (hK : va_K G.1 vwCl (mq_T G.2) s) (hM : mq_W G.1 A f H) (hS : va_S A s.heap H locs) (hA : ∀ q : Nat, s.heap.size ≤ q → A q) (hc : vwCl[ci]? = some (C, T, N)) {fs : List Value} (hfs : ∀ j, j < N → defaultValue (ty j) = vp_V fs j) (hcells : cells + 1 ≤ R.cells) (hslots : slots + N ≤ R.slots) (hdg : decode cc pc = .ok (.new index, 3))
    (kk : ∀ (q : Nat) (f1 : mq_F) (H1 : Heap), f q = none → f1 = mq_up f q (.inr (ci, fs)) → mq_W G.1 A f1 H1 → va_S A s.heap H1 locs → W p l e R s m args below meth c H1 locs (cells + 1) (slots + N) Q (F0 m (pc + 3) ls (.ref q :: rest))) : W p l e R s m args below meth c H locs cells slots Q (F0 m pc ls rest) :=
  va_new hexec hb hts hin ty hty hown hcl hinst hini hK (hM.P H.size) (hM.D _) hS hA hc hfs hcells hslots hdg fun q H1 hP hD hS1 => (mq_push hM hP hD).elim fun hq hM1 => kk q _ H1 hq rfl hM1 hS1
theorem mq_clsI (hK : va_K G.1 vwCl (mq_T G.2) s) {cA : ClassId} {ty : FieldType} (h : va_K G.1 vwCl (mq_T G.2 ++ [(cA, ty)]) s) {t0 : Nat} {c0 : ClassId} (ht : (mq_T G.2)[t0]? = some (c0, ty)) : cA = c0 := by
  have h1 := (hK.2 t0 _ ht).2
  have h2 := (h.2 (mq_T G.2).length (cA, ty) (by simp)).2
  cases ty with
  | object C =>
    obtain ⟨_, _, _, _, _, e1⟩ := h1
    obtain ⟨_, _, _, _, _, e2⟩ := h2
    exact Option.some.inj (e2.symm.trans e1)
  | _ => exact Option.some.inj ((show s.vm.findClass _ = some cA from h2).symm.trans h1)
theorem mq_newI (hexec : p.tables.exec = Jvm.exec) (hb : c.code = cc) (harr : (Cond.arrayClass .int).before args s = true) (hK : va_K G.1 vwCl (mq_T G.2) s) (hM : mq_W G.1 A f H) (hS : va_S A s.heap H locs) (hA : ∀ q : Nat, s.heap.size ≤ q → A q)
    {n : Int32} {N' : Nat} (hn : ¬ n < 0) (hN : n.toNatClampNeg = N') (hbytes : N' * 8 ≤ 536870912) (hcells : cells + 1 ≤ R.cells) (hslots : slots + N' ≤ R.slots) (hdg : decode cc pc = .ok (.newarray .int, 2))
    (kk : ∀ (q : Nat) (f1 : mq_F) (H1 : Heap), f q = none → f1 = mq_up f q (.inl (G.2 0, N', .inl (fun _ => 0))) → mq_W G.1 A f1 H1 → va_S A s.heap H1 locs → W p l e R s m args below meth c H1 locs (cells + 1) (slots + N') Q (F0 m (pc + 2) ls (.ref q :: rest))) : W p l e R s m args below meth c H locs cells slots Q (F0 m pc ls (.int n :: rest)) :=
  va_newa (atype := .int) (ty := .int) (a0 := (N', .inl (fun _ => 0))) hexec hb harr rfl hK (hM.P H.size) (hM.D _) hS hA (fun cA => rfl) hn hN (Nat.le_trans (Nat.mul_le_mul_left _ (by decide)) hbytes) hcells hslots hdg fun q cA H1 hK1 hP hD hS1 => by
    cases mq_clsI hK hK1 (t0 := 0) rfl
    exact (mq_push hM hP hD).elim fun hq hM1 => kk q _ H1 hq rfl hM1 hS1
theorem mq_newJ (hexec : p.tables.exec = Jvm.exec) (hb : c.code = cc) (harr : (Cond.arrayClass .long).before args s = true) (hK : va_K G.1 vwCl (mq_T G.2) s) (hM : mq_W G.1 A f H) (hS : va_S A s.heap H locs) (hA : ∀ q : Nat, s.heap.size ≤ q → A q)
    {n : Int32} {N' : Nat} (hn : ¬ n < 0) (hN : n.toNatClampNeg = N') (hbytes : N' * 8 ≤ 536870912) (hcells : cells + 1 ≤ R.cells) (hslots : slots + N' ≤ R.slots) (hdg : decode cc pc = .ok (.newarray .long, 2))
    (kk : ∀ (q : Nat) (f1 : mq_F) (H1 : Heap), f q = none → f1 = mq_up f q (.inl (G.2 1, N', .inr (.inl (fun _ => 0)))) → mq_W G.1 A f1 H1 → va_S A s.heap H1 locs → W p l e R s m args below meth c H1 locs (cells + 1) (slots + N') Q (F0 m (pc + 2) ls (.ref q :: rest))) : W p l e R s m args below meth c H locs cells slots Q (F0 m pc ls (.int n :: rest)) :=
  va_newa (atype := .long) (ty := .long) (a0 := (N', .inr (.inl (fun _ => 0)))) hexec hb harr rfl hK (hM.P H.size) (hM.D _) hS hA (fun cA => rfl) hn hN (Nat.le_trans (Nat.mul_le_mul_left _ (by decide)) hbytes) hcells hslots hdg fun q cA H1 hK1 hP hD hS1 => by
    cases mq_clsI hK hK1 (t0 := 1) rfl
    exact (mq_push hM hP hD).elim fun hq hM1 => kk q _ H1 hq rfl hM1 hS1
theorem mq_newZ (hexec : p.tables.exec = Jvm.exec) (hb : c.code = cc) (harr : (Cond.arrayClass .boolean).before args s = true) (hK : va_K G.1 vwCl (mq_T G.2) s) (hM : mq_W G.1 A f H) (hS : va_S A s.heap H locs) (hA : ∀ q : Nat, s.heap.size ≤ q → A q)
    {n : Int32} {N' : Nat} (hn : ¬ n < 0) (hN : n.toNatClampNeg = N') (hbytes : N' * 8 ≤ 536870912) (hcells : cells + 1 ≤ R.cells) (hslots : slots + N' ≤ R.slots) (hdg : decode cc pc = .ok (.newarray .boolean, 2))
    (kk : ∀ (q : Nat) (f1 : mq_F) (H1 : Heap), f q = none → f1 = mq_up f q (.inl (G.2 2, N', .inl (fun _ => 0))) → mq_W G.1 A f1 H1 → va_S A s.heap H1 locs → W p l e R s m args below meth c H1 locs (cells + 1) (slots + N') Q (F0 m (pc + 2) ls (.ref q :: rest))) : W p l e R s m args below meth c H locs cells slots Q (F0 m pc ls (.int n :: rest)) :=
  va_newa (atype := .boolean) (ty := .boolean) (a0 := (N', .inl (fun _ => 0))) hexec hb harr rfl hK (hM.P H.size) (hM.D _) hS hA (fun cA => rfl) hn hN (Nat.le_trans (Nat.mul_le_mul_left _ (by decide)) hbytes) hcells hslots hdg fun q cA H1 hK1 hP hD hS1 => by
    cases mq_clsI hK hK1 (t0 := 2) rfl
    exact (mq_push hM hP hD).elim fun hq hM1 => kk q _ H1 hq rfl hM1 hS1
theorem mq_newD (hexec : p.tables.exec = Jvm.exec) (hb : c.code = cc) (harr : (Cond.arrayClass .double).before args s = true) (hK : va_K G.1 vwCl (mq_T G.2) s) (hM : mq_W G.1 A f H) (hS : va_S A s.heap H locs) (hA : ∀ q : Nat, s.heap.size ≤ q → A q)
    {n : Int32} {N' : Nat} (hn : ¬ n < 0) (hN : n.toNatClampNeg = N') (hbytes : N' * 8 ≤ 536870912) (hcells : cells + 1 ≤ R.cells) (hslots : slots + N' ≤ R.slots) (hdg : decode cc pc = .ok (.newarray .double, 2))
    (kk : ∀ (q : Nat) (f1 : mq_F) (H1 : Heap), f q = none → f1 = mq_up f q (.inl (G.2 9, N', .inr (.inr (.inr (.inl (fun _ => 0)))))) → mq_W G.1 A f1 H1 → va_S A s.heap H1 locs → W p l e R s m args below meth c H1 locs (cells + 1) (slots + N') Q (F0 m (pc + 2) ls (.ref q :: rest))) : W p l e R s m args below meth c H locs cells slots Q (F0 m pc ls (.int n :: rest)) :=
  va_newa (atype := .double) (ty := .double) (a0 := (N', .inr (.inr (.inr (.inl (fun _ => 0)))))) hexec hb harr rfl hK (hM.P H.size) (hM.D _) hS hA (fun cA => rfl) hn hN (Nat.le_trans (Nat.mul_le_mul_left _ (by decide)) hbytes) hcells hslots hdg fun q cA H1 hK1 hP hD hS1 => by
    cases mq_clsI hK hK1 (t0 := 9) rfl
    exact (mq_push hM hP hD).elim fun hq hM1 => kk q _ H1 hq rfl hM1 hS1
theorem mq_newq (hexec : p.tables.exec = Jvm.exec) (hb : c.code = cc) {own C : String} {index t0 : Nat} {cA : ClassId} (ht : (mq_T G.2)[t0]? = some (cA, .object C)) (hown : s.vm.findClass own = some m.cls) (hclink : (Cond.classLink own index C).before args s = true) (hover : (Cond.arrayOver (.object C)).before args s = true) (hK : va_K G.1 vwCl (mq_T G.2) s) (hM : mq_W G.1 A f H) (hS : va_S A s.heap H locs) (hA : ∀ q : Nat, s.heap.size ≤ q → A q)
    {n : Int32} {N' : Nat} (hn : ¬ n < 0) (hN : n.toNatClampNeg = N') (hbytes : N' * 4 ≤ 536870912) (hcells : cells + 1 ≤ R.cells) (hslots : slots + N' ≤ R.slots) (hdg : decode cc pc = .ok (.anewarray index, 3))
    (kk : ∀ (q : Nat) (f1 : mq_F) (H1 : Heap), f q = none → f1 = mq_up f q (.inl (cA, N', .inr (.inr (.inr (.inr (fun _ => none)))))) → mq_W G.1 A f1 H1 → va_S A s.heap H1 locs → W p l e R s m args below meth c H1 locs (cells + 1) (slots + N') Q (F0 m (pc + 3) ls (.ref q :: rest))) : W p l e R s m args below meth c H locs cells slots Q (F0 m pc ls (.int n :: rest)) :=
  va_newq hexec hb hown hclink hover hK (hM.P H.size) (hM.D _) hS hA hn hN hbytes hcells hslots hdg fun q cB H1 hK1 hP hD hS1 => by
    cases mq_clsI hK hK1 ht
    exact (mq_push hM hP hD).elim fun hq hM1 => kk q _ H1 hq rfl hM1 hS1
theorem mq_aload_nq (hexec : p.tables.exec = Jvm.exec) (hb : c.code = cc) {k : Fin 4} {i : Nat} {r : Option Nat} (hdg : decode cc pc = .ok (.aload_n k, 1)) (hi : (k : Nat) = i) (hl : ls[i]? = some (.val (va_rf r)))
    (kk : W p l e R s m args below meth c H locs cells slots Q (F0 m (pc + 1) ls (va_rf r :: rest))) : W p l e R s m args below meth c H locs cells slots Q (F0 m pc ls (rest)) := by
  cases r with
  | none => exact lv_aload_nN hexec hb hdg hi hl kk
  | some x => exact lv_aload_n hexec hb hdg hi hl kk
theorem mq_aloadq (hexec : p.tables.exec = Jvm.exec) (hb : c.code = cc) {i : Nat} {r : Option Nat} (hdg : decode cc pc = .ok (.aload i, 2)) (hl : ls[i]? = some (.val (va_rf r)))
    (kk : W p l e R s m args below meth c H locs cells slots Q (F0 m (pc + 2) ls (va_rf r :: rest))) : W p l e R s m args below meth c H locs cells slots Q (F0 m pc ls (rest)) := by
  cases r with
  | none => exact lv_aloadN hexec hb hdg hl kk
  | some x => exact lv_aload hexec hb hdg hl kk
theorem mq_astore_nq (hexec : p.tables.exec = Jvm.exec) (hb : c.code = cc) {k : Fin 4} {i nL : Nat} {r : Option Nat} {lv lv' : List (Nat × Value)} (hdg : decode cc pc = .ok (.astore_n k, 1)) (hi : (k : Nat) = i) (h : lv_has ls nL lv) (hn : i < nL) (hl : (i, va_rf r) :: lv.filter (fun q => !(q.1 == i) && !(q.1 + 1 == i && q.2.category == 2)) = lv')
    (kk : ∀ ls' : Array Slot, lv_has ls' nL lv' → W p l e R s m args below meth c H locs cells slots Q (F0 m (pc + 1) ls' rest)) : W p l e R s m args below meth c H locs cells slots Q (F0 m pc ls (va_rf r :: rest)) := by
  cases r with
  | none => exact lv_astore_nN hexec hb hdg hi h hn hl kk
  | some x => exact lv_astore_n hexec hb hdg hi h hn hl kk
theorem mq_astoreq (hexec : p.tables.exec = Jvm.exec) (hb : c.code = cc) {i nL : Nat} {r : Option Nat} {lv lv' : List (Nat × Value)} (hdg : decode cc pc = .ok (.astore i, 2)) (h : lv_has ls nL lv) (hn : i < nL) (hl : (i, va_rf r) :: lv.filter (fun q => !(q.1 == i) && !(q.1 + 1 == i && q.2.category == 2)) = lv')
    (kk : ∀ ls' : Array Slot, lv_has ls' nL lv' → W p l e R s m args below meth c H locs cells slots Q (F0 m (pc + 2) ls' rest)) : W p l e R s m args below meth c H locs cells slots Q (F0 m pc ls (va_rf r :: rest)) := by
  cases r with
  | none => exact lv_astoreN hexec hb hdg h hn hl kk
  | some x => exact lv_astore hexec hb hdg h hn hl kk
theorem mq_thrown {px : String → mq_F → Prop} {E : String} {t : State} (hM : mq_W G.1 A f H) (hS : va_S A s.heap H locs) (hz : H.size ≤ t.heap.size) (hq : ∀ q : Nat, q < H.size → t.heap[q]? = H[q]?) (hp : px E f) : mq_X G A px E s t :=
  ⟨f, trivial, ⟨hp, hM.kept hq⟩, Nat.le_trans hS.1 hz, fun q h1 h2 => (hq q (Nat.lt_of_lt_of_le h1 hS.1)).trans (hS.2.1 q h1 h2)⟩
/-- ends -/
theorem mq_iret {post : Int32 → mq_F → Prop} {v : Int32} (hexec : p.tables.exec = Jvm.exec) (hb : c.code = cc) (hr : meth.sig.returnType = some .int) (hlocks : meth.locks = false) (hM : mq_W G.1 A f H) (hS : va_S A s.heap H locs) (hp : post v f) (hdg : decode cc pc = .ok (.ireturn, 1)) : W p l e R s m args below meth c H locs cells slots (MQ below (mq_Qi G A post) args s cells slots A) (F0 m pc ls [.int v]) :=
  W.iret hexec hb hr (fun t ht _ => ⟨⟨v, f, rfl, hp, by show mq_W G.1 A f t.heap; rw [ht]; exact hM⟩, hS.F ht⟩) hS.2.2 hdg hlocks
theorem mq_zret {post : Int32 → mq_F → Prop} {v : Int32} {ty : FieldType} (hexec : p.tables.exec = Jvm.exec) (hb : c.code = cc) (hr : meth.sig.returnType = some ty) (hn : narrow ty (.int v) = .int v) (hlocks : meth.locks = false) (hM : mq_W G.1 A f H) (hS : va_S A s.heap H locs) (hp : post v f) (hdg : decode cc pc = .ok (.ireturn, 1)) : W p l e R s m args below meth c H locs cells slots (MQ below (mq_Qi G A post) args s cells slots A) (F0 m pc ls [.int v]) :=
  W.zret hexec hb hr hn (fun t ht _ => ⟨⟨v, f, rfl, hp, by show mq_W G.1 A f t.heap; rw [ht]; exact hM⟩, hS.F ht⟩) hS.2.2 hdg hlocks
theorem mq_lret {post : Int64 → mq_F → Prop} {v : Int64} (hexec : p.tables.exec = Jvm.exec) (hb : c.code = cc) (hr : meth.sig.returnType = some .long) (hlocks : meth.locks = false) (hM : mq_W G.1 A f H) (hS : va_S A s.heap H locs) (hp : post v f) (hdg : decode cc pc = .ok (.lreturn, 1)) : W p l e R s m args below meth c H locs cells slots (MQ below (mq_Ql G A post) args s cells slots A) (F0 m pc ls [.long v]) :=
  W.lret hexec hb hr (fun t ht _ => ⟨⟨v, f, rfl, hp, by show mq_W G.1 A f t.heap; rw [ht]; exact hM⟩, hS.F ht⟩) hS.2.2 hdg hlocks
theorem mq_fret {post : UInt32 → mq_F → Prop} {v : UInt32} (hexec : p.tables.exec = Jvm.exec) (hb : c.code = cc) (hr : meth.sig.returnType = some .float) (hlocks : meth.locks = false) (hM : mq_W G.1 A f H) (hS : va_S A s.heap H locs) (hp : post v f) (hdg : decode cc pc = .ok (.freturn, 1)) : W p l e R s m args below meth c H locs cells slots (MQ below (mq_Qf G A post) args s cells slots A) (F0 m pc ls [.float v]) :=
  W.fret hexec hb hr (fun t ht _ => ⟨⟨v, f, rfl, hp, by show mq_W G.1 A f t.heap; rw [ht]; exact hM⟩, hS.F ht⟩) hS.2.2 hdg hlocks
theorem mq_dret {post : UInt64 → mq_F → Prop} {v : UInt64} (hexec : p.tables.exec = Jvm.exec) (hb : c.code = cc) (hr : meth.sig.returnType = some .double) (hlocks : meth.locks = false) (hM : mq_W G.1 A f H) (hS : va_S A s.heap H locs) (hp : post v f) (hdg : decode cc pc = .ok (.dreturn, 1)) : W p l e R s m args below meth c H locs cells slots (MQ below (mq_Qd G A post) args s cells slots A) (F0 m pc ls [.double v]) :=
  W.dret hexec hb hr (fun t ht _ => ⟨⟨v, f, rfl, hp, by show mq_W G.1 A f t.heap; rw [ht]; exact hM⟩, hS.F ht⟩) hS.2.2 hdg hlocks
theorem mq_vret {post : mq_F → Prop} (hexec : p.tables.exec = Jvm.exec) (hb : c.code = cc) (hr : meth.sig.returnType = none) (hlocks : meth.locks = false) (hM : mq_W G.1 A f H) (hS : va_S A s.heap H locs) (hp : post f) (hdg : decode cc pc = .ok (.return_, 1)) : W p l e R s m args below meth c H locs cells slots (MQ below (mq_Qv G A post) args s cells slots A) (F0 m pc ls []) :=
  W.vret hexec hb hr (fun t ht _ => ⟨⟨f, rfl, hp, by show mq_W G.1 A f t.heap; rw [ht]; exact hM⟩, hS.F ht⟩) hS.2.2 hdg hlocks
theorem mq_aret {post : Option Nat → mq_F → Prop} {r : Option Nat} {v : Value} {rt : FieldType} (hv : v = va_rf r) (hexec : p.tables.exec = Jvm.exec) (hb : c.code = cc) (hr : meth.sig.returnType = some rt) (hrt : (∃ n, rt = .object n) ∨ ∃ t, rt = .array t) (hlocks : meth.locks = false) (hM : mq_W G.1 A f H) (hS : va_S A s.heap H locs) (hp : post r f) (hdg : decode cc pc = .ok (.areturn, 1)) : W p l e R s m args below meth c H locs cells slots (MQ below (mq_Qq G A post) args s cells slots A) (F0 m pc ls [v]) := by
  subst hv
  exact W.aret hexec hb hr hrt (va_rf_or r) (fun t ht _ => ⟨⟨r, f, rfl, hp, by show mq_W G.1 A f t.heap; rw [ht]; exact hM⟩, hS.F ht⟩) hS.2.2 hdg hlocks
/-- a thrown exception goes on to the caller -/
theorem mq_out {Qc : Array Value → State → Outcome → State → Prop} {px : String → mq_F → Prop} {E : String} {ce : Cell} {q : Addr} (hex : c.exceptionTable.toList = []) (hlocks : meth.locks = false) (hcell : H[q]? = some ce) (hv : ce.vm = .none) (hcl : s.vm.findClass E = some ce.cls) (hM : mq_W G.1 A f H) (hS : va_S A s.heap H locs) (hp : px E f) (hc : cells ≤ mc) (hs : slots ≤ ms) :
    vx_W p l e R s m args below meth c H locs cells slots (vx_MQ below Qc (mq_X G A px) args s mc ms A) (F0 m pc ls rest) q :=
  vx_out (fun x hx => by rw [hex] at hx; cases hx) hlocks hcell hv hcl (fun t ht _ => ⟨f, trivial, ⟨hp, by show mq_W G.1 A f t.heap; rw [ht]; exact hM⟩, hS.F ht⟩) hS.2.2 hc hs
end MQ2
