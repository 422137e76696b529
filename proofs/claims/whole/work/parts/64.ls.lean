/-! WHAT STANDS AT THE LAW'S ENTRY: classes, arrays' classes, texts, statics, out of the tables and the start -/
section
variable {args : Array Value} {s : State}
theorem lw_arP {ty : FieldType} (h : (Cond.arrayClass ty).before args s = true) (hr : ∀ cA, s.vm.findClass ("[" ++ ty.toString) = some cA → va_RA s cA ty) : ∃ cA, ArrOfT s cA ty ∧ va_RA s cA ty := by
  obtain ⟨c, k, comp, h1, h2, h3⟩ := Cond.arrayClass_spec (show (Cond.arrayClass ty).holds args s none s [] = true from h)
  exact ⟨c, fun N z => ⟨fun k h => (by cases h), k, h2, comp, h3⟩, hr c h1⟩
theorem lw_arO {C : String} (h : (Cond.arrayOver (.object C)).before args s = true) : ∃ cA, ArrOfT s cA (.object C) ∧ va_RA s cA (.object C) := by
  obtain ⟨comp, c, k, h1, -, h2, h3, h4⟩ := Cond.arrayOver_spec (show (Cond.arrayOver (.object C)).holds args s none s [] = true from h)
  exact ⟨c, fun N z => ⟨fun k h => (by cases h), k, h2, comp, h3⟩, k, comp, h2, h3, h1, h4⟩
theorem wsJ00_intbl : ∀ w ∈ wsJ00, w ∈ lw_tbl := by decide +kernel
theorem wsJx000600_intbl : ∀ w ∈ wsJx000600, w ∈ lw_tbl := by decide +kernel
theorem lw_cls (hts : ∀ w ∈ lw_tbl, w.before args s = true) : ∀ q ∈ vwCl, ∃ (cC : ClassId) (iS : Nat → Nat), u_Kn s q.1 q.2.1 q.2.2 cC iS :=
  List.forall_mem_cons.mpr ⟨u_known hts wsJ00_intbl (hts (.instantiable RJ0 4) (by decide +kernel)),
  List.forall_mem_cons.mpr ⟨u_known hts wsJ60_intbl (hts (.instantiable RJ6 1) (by decide +kernel)),
  List.forall_mem_cons.mpr ⟨u_known hts wsJx000600_intbl (hts (.instantiable RJx00060 6) (by decide +kernel)),
  List.forall_mem_cons.mpr ⟨u_known hts wsJx354110_intbl (hts (.instantiable RJx35411 4) (by decide +kernel)),
  List.forall_mem_cons.mpr ⟨u_known hts wsJx4a65c0_intbl (hts (.instantiable RJx4a65c 3) (by decide +kernel)),
  List.forall_mem_cons.mpr ⟨u_known hts wsX00_intbl (hts (.instantiable RX0 4) (by decide +kernel)),
  List.forall_mem_cons.mpr ⟨u_known hts wsX10_intbl (hts (.instantiable RX1 5) (by decide +kernel)),
  List.forall_mem_cons.mpr ⟨u_known hts wsX20_intbl (hts (.instantiable RX2 4) (by decide +kernel)),
  List.forall_mem_cons.mpr ⟨u_known hts wsX30_intbl (hts (.instantiable RX3 5) (by decide +kernel)),
  List.forall_mem_cons.mpr ⟨u_known hts wsX40_intbl (hts (.instantiable RX4 7) (by decide +kernel)),
  List.forall_mem_cons.mpr ⟨u_known hts wsX50_intbl (hts (.instantiable RX5 4) (by decide +kernel)),
  List.forall_mem_cons.mpr ⟨u_known hts wsX60_intbl (hts (.instantiable RX6 2) (by decide +kernel)),
  List.forall_mem_cons.mpr ⟨u_known hts wsX70_intbl (hts (.instantiable RX7 6) (by decide +kernel)),
  List.forall_mem_cons.mpr ⟨u_known hts wsX80_intbl (hts (.instantiable RX8 6) (by decide +kernel)),
  List.forall_mem_cons.mpr ⟨u_known hts wsX90_intbl (hts (.instantiable RX9 8) (by decide +kernel)),
  List.forall_mem_cons.mpr ⟨u_known hts wsX100_intbl (hts (.instantiable RX10 4) (by decide +kernel)),
  List.forall_mem_cons.mpr ⟨u_known hts wsX110_intbl (hts (.instantiable RX11 4) (by decide +kernel)), fun q h => absurd h List.not_mem_nil⟩⟩⟩⟩⟩⟩⟩⟩⟩⟩⟩⟩⟩⟩⟩⟩⟩
theorem lw_know (hts : ∀ w ∈ lw_tbl, w.before args s = true) : ∃ (D1 : Nat → ClassId) (iS : Nat → Nat → Nat) (d : Nat → ClassId), (∀ (c : Nat) (q : vw_C), vwCl[c]? = some q → u_Kn s q.1 q.2.1 q.2.2 (D1 c) (iS c)) ∧ ∀ (k : Nat) (q : ClassId × FieldType), (mq_T d)[k]? = some q → ArrOfT s q.1 q.2 ∧ va_RA s q.1 q.2 := by
  have hc : ∀ c : Nat, ∃ p : ClassId × (Nat → Nat), ∀ q : vw_C, vwCl[c]? = some q → u_Kn s q.1 q.2.1 q.2.2 p.1 p.2 := by
    intro c
    cases h : vwCl[c]? with
    | none => exact ⟨((0 : Nat), fun _ => 0), fun q hq => by cases hq⟩
    | some q =>
      obtain ⟨cC, iS, hk⟩ := lw_cls hts q (List.mem_of_getElem? h)
      exact ⟨(cC, iS), fun q' hq => by cases hq; exact hk⟩
  obtain ⟨d0, a0⟩ := lw_arP (hts (.arrayClass .int) (by decide +kernel)) (fun _ h => h)
  obtain ⟨d1, a1⟩ := lw_arP (hts (.arrayClass .long) (by decide +kernel)) (fun _ h => h)
  obtain ⟨d2, a2⟩ := lw_arP (hts (.arrayClass .boolean) (by decide +kernel)) (fun _ h => h)
  obtain ⟨d3, a3⟩ := lw_arO (hts (.arrayOver (.object RX0)) (by decide +kernel))
  obtain ⟨d4, a4⟩ := lw_arO (hts (.arrayOver (.object RX3)) (by decide +kernel))
  obtain ⟨d5, a5⟩ := lw_arO (hts (.arrayOver (.object RX4)) (by decide +kernel))
  obtain ⟨d6, a6⟩ := lw_arO (hts (.arrayOver (.object RX5)) (by decide +kernel))
  obtain ⟨d7, a7⟩ := lw_arO (hts (.arrayOver (.object RX8)) (by decide +kernel))
  obtain ⟨d8, a8⟩ := lw_arO (hts (.arrayOver (.object "java/lang/Object")) (by decide +kernel))
  obtain ⟨d9, a9⟩ := lw_arP (hts (.arrayClass .double) (by decide +kernel)) (fun _ h => h)
  refine ⟨fun c => (Classical.choose (hc c)).1, fun c => (Classical.choose (hc c)).2, fun k => match k with
    | 0 => d0 | 1 => d1 | 2 => d2 | 3 => d3 | 4 => d4 | 5 => d5 | 6 => d6 | 7 => d7 | 8 => d8 | _ => d9, fun c q hq => Classical.choose_spec (hc c) q hq, fun k q hq => ?_⟩
  match k, hq with
  | 0, hq => cases hq; exact a0
  | 1, hq => cases hq; exact a1
  | 2, hq => cases hq; exact a2
  | 3, hq => cases hq; exact a3
  | 4, hq => cases hq; exact a4
  | 5, hq => cases hq; exact a5
  | 6, hq => cases hq; exact a6
  | 7, hq => cases hq; exact a7
  | 8, hq => cases hq; exact a8
  | 9, hq => cases hq; exact a9
  | k + 10, hq => exact absurd hq (by simp)
theorem lw_text (hts : ∀ w ∈ lw_tbl, w.before args s = true) : ∀ x ∈ mq_Sl, ∃ a, vk_R x.1 x.2.1 x.2.2 a s := by
  have h1 : ∀ x ∈ mq_Sl, Cond.stringRef x.1 x.2.1 x.2.2 ∈ lw_tbl := by decide +kernel
  have h2 : ∀ x ∈ mq_Sl, x.1 = RX7 := by decide +kernel
  obtain ⟨cC, kC, hfc, -⟩ := Cond.instantiable_spec (hts (.instantiable RX7 6) (by decide +kernel))
  intro x hx
  have h := hts _ (h1 x hx)
  obtain ⟨_, _, _, a, _, _, _, _, _, h9⟩ := Cond.stringRef_spec (by rw [h2 x hx]; exact hfc) (show (Cond.stringRef x.1 x.2.1 x.2.2).holds args s none s [] = true from h)
  exact ⟨a, vk_R.of h h9⟩
theorem lw_mqN (hts : ∀ w ∈ lw_tbl, w.before args s = true) : mq_N s := by
  have h2 : ∀ x ∈ mq_Cl, Cond.castable x.1 x.2 ∈ lw_tbl := by decide +kernel
  have h3 : ∀ x ∈ mq_Ml, Cond.methodLinkNest x.1 x.2.1 x.2.2.1 x.2.2.2 ∈ lw_tbl := by decide +kernel
  have h4 : ∀ x ∈ mq_Fl, Cond.fieldLinkNest x.1 x.2.1 x.2.2.1 x.2.2.2.1 x.2.2.2.2.1 x.2.2.2.2.2 ∈ lw_tbl := by decide +kernel
  have h5 : ∀ x ∈ mq_Il, Cond.declares x.2.1 ∈ lw_tbl ∧ Cond.interfaceMethod x.2.1.cls x.2.1.cls x.2.1.name x.2.1.desc ∈ lw_tbl ∧ Cond.publicMethod x.2.2 ∈ lw_tbl ∧ Cond.unhidden x.1 x.2.1.name x.2.1.desc ∈ lw_tbl ∧ Cond.castable x.1 x.2.1.cls ∈ lw_tbl := by decide +kernel
  have h6 : ∀ x ∈ mq_Dl, Cond.declares x ∈ lw_tbl := by decide +kernel
  have h7 : ∀ C ∈ mq_Al, Cond.arrayOver (.object C) ∈ lw_tbl := by decide +kernel
  exact ⟨lw_text hts, fun x hx => va_Nw.of rfl (hts _ (h2 x hx)), fun x hx => va_Nw.of rfl (hts _ (h3 x hx)), fun x hx => va_Nw.of rfl (hts _ (h4 x hx)), fun x hx => va_Fw.of (hts _ (h5 x hx).1) (hts _ (h5 x hx).2.1) (hts _ (h5 x hx).2.2.1) (hts _ (h5 x hx).2.2.2.1) (hts _ (h5 x hx).2.2.2.2), fun x hx => va_Nw.of rfl (hts _ (h6 x hx)), fun C hC => va_AO.of (hts _ (h7 C hC))⟩
theorem lw_bool {A : Nat → Prop} {n : String} {v : Int32} (h1 : (Cond.laysStatic "java/lang/Boolean" n "Ljava/lang/Boolean;").before args s = true) (h2 : (Cond.initialized "java/lang/Boolean").before args s = true) (h3 : (Cond.exactly (.static "java/lang/Boolean" n "Ljava/lang/Boolean;") "java/lang/Boolean").before args s = true) (h4 : (Cond.eq (.field (.static "java/lang/Boolean" n "Ljava/lang/Boolean;") "java/lang/Boolean" "value" "Z") (.int v)).before args s = true) (hA : ∀ a : Nat, a < s.heap.size → ¬ A a) :
    ∃ a, va_Z "java/lang/Boolean" n "Ljava/lang/Boolean;" (.ref a) A s s.heap ∧ va_O "java/lang/Boolean" a A s s.heap ∧ va_OF "java/lang/Boolean" "value" "Z" (.int v) a A s s.heap := by
  obtain ⟨a, _, _, _, hv, -⟩ := Cond.exactly_spec (args := args) (first := s) (o := none) (s := s) (idx := []) h3
  exact ⟨a, va_Zref h1 h2 hv hA, va_Oof h3 hv hA, vk_OFof hv (va_eqv h4 rfl) hA⟩
end
def lw_D2 (iS : Nat → Nat → Nat) (aF aT aE aC aM : Nat) (adI : Nat → Nat) : Nat → Nat → Nat := fun c k => if c = 99 then (if k = 0 then aF else if k = 1 then aT else if k = 2 then aE else if k = 3 then aC else aM) else if c = 100 then adI k else iS c k
theorem lw_D2c {iS : Nat → Nat → Nat} {aF aT aE aC aM : Nat} {adI : Nat → Nat} {c : Nat} (h : c < 99) : lw_D2 iS aF aT aE aC aM adI c = iS c := by
  funext k
  unfold lw_D2
  rw [if_neg (by omega), if_neg (by omega)]
theorem lw_facts {s : State} {b : Nat} (hts : ∀ w ∈ lw_tbl, w.before #[Value.ref b] s = true) (hgv : (Jvm.Cond.and given_1 narrow_1).before #[Value.ref b] s = true) : ∃ G : mq_G, va_K G.1 vwCl (mq_T G.2) s ∧ mq_Z G (fun q => s.heap.size ≤ q) s s.heap ∧ lq_N s := by
  have hs := flat_of_before _ hgv
  have hA : ∀ a : Nat, a < s.heap.size → ¬ (fun q : Nat => s.heap.size ≤ q) a := fun a h => Nat.not_le.mpr h
  obtain ⟨D1, iS, d, k1, k2⟩ := lw_know hts
  obtain ⟨aF, bF⟩ := lw_bool (A := fun q : Nat => s.heap.size ≤ q) (n := "FALSE") (v := 0) (hts _ (by decide +kernel)) (hts _ (by decide +kernel)) (hs _ (by decide +kernel)) (hs _ (by decide +kernel)) hA
  obtain ⟨aT, bT⟩ := lw_bool (A := fun q : Nat => s.heap.size ≤ q) (n := "TRUE") (v := 1) (hts _ (by decide +kernel)) (hts _ (by decide +kernel)) (hs _ (by decide +kernel)) (hs _ (by decide +kernel)) hA
  have ini : (Cond.initialized "java/util/ArrayList").before #[Value.ref b] s = true := hts _ (by decide +kernel)
  have inc : (Cond.initialized "java/lang/Integer$IntegerCache").before #[Value.ref b] s = true := hts _ (by decide +kernel)
  have inT : (Cond.initialized Bundle.tN).before #[Value.ref b] s = true := hts _ (by decide +kernel)
  obtain ⟨aE, eE, tE⟩ := va_Tof (args := #[Value.ref b]) (s := s) (tm := .static "java/util/ArrayList" "DEFAULTCAPACITY_EMPTY_ELEMENTDATA" "[Ljava/lang/Object;") (ty := .object "java/lang/Object") (N := 0) (f := fun _ => .null) (A := fun q : Nat => s.heap.size ≤ q) (by decide) (hs _ (by decide +kernel)) (va_eqv (hs (Cond.eq (.length (.static "java/util/ArrayList" "DEFAULTCAPACITY_EMPTY_ELEMENTDATA" "[Ljava/lang/Object;")) (.int 0)) (by decide +kernel)) rfl) (fun j hj => absurd hj (Nat.not_lt_zero j)) hA
  have zE := va_Zref (hts (.laysStatic "java/util/ArrayList" "DEFAULTCAPACITY_EMPTY_ELEMENTDATA" "[Ljava/lang/Object;") (by decide +kernel)) ini eE hA
  obtain ⟨aM, mM⟩ := va_Mi.of (hs (Cond.isRef (.mirror "[Ljava/lang/Object;")) (by decide +kernel))
  have zH := va_Zof (hts (.laysStatic "java/lang/Integer$IntegerCache" "high" "I") (by decide +kernel)) inc (va_eqi (z := 127) (hs _ (by decide +kernel))) hA
  have hlen := va_eqv (hs (Cond.eq (.length (.static "java/lang/Integer$IntegerCache" "cache" "[Ljava/lang/Integer;")) (.int 256)) (by decide +kernel)) (show (Term.int 256).eval #[Value.ref b] s none [] s = some (.int (Int32.ofNat 256)) from rfl)
  obtain ⟨adI, vI, eI⟩ := vb_Cof (args := #[Value.ref b]) (s := s) (A := fun q : Nat => s.heap.size ≤ q) (st := .static "java/lang/Integer$IntegerCache" "cache" "[Ljava/lang/Integer;") rfl hlen (hs _ (by decide +kernel)) hA
  obtain ⟨aC, eC, tC⟩ := va_Tof (args := #[Value.ref b]) (s := s) (tm := .static "java/lang/Integer$IntegerCache" "cache" "[Ljava/lang/Integer;") (ty := .object "java/lang/Integer") (N := 256) (f := fun k => .ref (adI k)) (A := fun q : Nat => s.heap.size ≤ q) (by decide) (hs _ (by decide +kernel)) hlen eI hA
  have zC := va_Zref (hts (.laysStatic "java/lang/Integer$IntegerCache" "cache" "[Ljava/lang/Integer;") (by decide +kernel)) inc eC hA
  have zU := vx_Zqof (hts (.laysStatic Bundle.tN "UNASSIGNED_STACK" Bundle.steD) (by decide +kernel)) inT (hs _ (by decide +kernel)) hA
  have zS := vx_Zqof (hts (.laysStatic Bundle.tN "SUPPRESSED_SENTINEL" Bundle.listD) (by decide +kernel)) inT (hs _ (by decide +kernel)) hA
  have hL : lq_N s := List.forall_mem_cons.mpr ⟨va_Nc.of (hs _ (by decide +kernel)), List.forall_mem_cons.mpr ⟨va_Nc.of (hs _ (by decide +kernel)), List.forall_mem_cons.mpr ⟨va_Nc.of (hs _ (by decide +kernel)), List.forall_mem_cons.mpr ⟨va_Nc.of (hs _ (by decide +kernel)), List.forall_mem_cons.mpr ⟨va_Nc.of (hs _ (by decide +kernel)), List.forall_mem_cons.mpr ⟨va_Nc.of (hs _ (by decide +kernel)), fun q h => absurd h List.not_mem_nil⟩⟩⟩⟩⟩⟩
  refine ⟨((D1, lw_D2 iS aF aT aE aC aM adI), d), ⟨fun c q hq => ?_, k2⟩, ⟨⟨zU, zS⟩, lw_mqN hts, fun b => ?_, ⟨zE, tE, mM⟩, ⟨zH, zC, tC, vI⟩⟩, hL⟩
  · have hc : c < 17 := (List.getElem?_eq_some_iff.mp hq).1
    have h := k1 c q hq
    rw [← lw_D2c (iS := iS) (aF := aF) (aT := aT) (aE := aE) (aC := aC) (aM := aM) (adI := adI) (c := c) (by omega)] at h
    exact h
  · cases b
    · exact bF
    · exact bT
