/-! ROWS FOR THE JDK'S LISTS, over the map -/
/-- what may lie in a row of Objects -/
def mq_E (G : mq_G) (f : mq_F) (y : Nat) : Prop := (∃ (ci : Nat) (fs : List Value) (r : vw_C), f y = some (.inr (ci, fs)) ∧ vwCl[ci]? = some r ∧ (r.1, "java/lang/Object") ∈ mq_Cl) ∨ (∃ (n : Nat) (g : Nat → Int32), f y = some (.inl (G.2 0, n, .inl g))) ∨ (∃ b : Bool, y = sB G b) ∨ ∃ k : Nat, k < 256 ∧ y = sI G k
theorem mq_E.keep {G : mq_G} {f g : mq_F} {y : Nat} (h : mq_E G f y) (hk : ∀ e, f y = some e → (∀ c n r, e ≠ .inl (c, n, .inr r)) → (∀ r, e = .inr r → r.1 ≠ 4) → g y = some e) : mq_E G g y := by
  rcases h with ⟨ci, fs, r, h1, h2, h3⟩ | ⟨n, w, h1⟩ | h1 | h1
  · refine Or.inl ⟨ci, fs, r, hk _ h1 (fun c n r q => by cases q) (fun r9 q => ?_), h2, h3⟩
    cases q
    intro w
    have w : ci = 4 := w
    subst w
    cases h2
    exact absurd h3 (by decide)
  · exact Or.inr (Or.inl ⟨n, w, hk _ h1 (fun c n r q => by cases q) (fun r q => by cases q)⟩)
  · exact Or.inr (Or.inr (Or.inl h1))
  · exact Or.inr (Or.inr (Or.inr h1))
section MQ3
variable {p : Program} {l : Launch} {e : Env} {R : Room} {s : State} {m : MethodId} {args : Array Value} {below : List Frame} {meth : Method} {c : Code} {H : Heap} {locs : List Loc} {cells slots : Nat} {Q : State → Prop}
variable {cc : ByteArray} {pc : Nat} {ls : Array Slot} {rest st0 : List Value} {G : mq_G} {A : Nat → Prop} {f : mq_F} {a : Nat} {av : Array Value} {mc ms : Nat}
theorem mq_recI (hK : va_K G.1 vwCl (mq_T G.2) s) (hM : mq_W G.1 A f H) {n : Nat} {g : Nat → Int32} (hf : f a = some (.inl (G.2 0, n, .inl g))) : ∃ cell : Cell, H[a]? = some cell ∧ cell.vm.isStatics = false ∧ s.vm.findClass "[I" = some cell.cls := ⟨_, (hM a _ hf).2, rfl, (hK.2 0 _ rfl).2⟩
theorem mq_recA (hK : va_K G.1 vwCl (mq_T G.2) s) (hM : mq_W G.1 A f H) {n : Nat} {g : Nat → Option Nat} (hf : f a = some (.inl (G.2 8, n, .inr (.inr (.inr (.inr g)))))) : ∃ cell : Cell, H[a]? = some cell ∧ cell.vm.isStatics = false ∧ s.vm.findClass "[Ljava/lang/Object;" = some cell.cls := ⟨_, (hM a _ hf).2, rfl, va_nmO (hK.2 8 _ rfl).2 rfl⟩
theorem mq_recB (hZ : mq_Z G A s s.heap) (hS : va_S A s.heap H locs) (b : Bool) : ∃ cell : Cell, H[sB G b]? = some cell ∧ cell.vm.isStatics = false ∧ s.vm.findClass "java/lang/Boolean" = some cell.cls := va_Orecv (hZ.2.2.1 b).2.1 hS
theorem mq_recN (hZ : mq_Z G A s s.heap) (hS : va_S A s.heap H locs) {k : Nat} (hk : k < 256) : ∃ cell : Cell, H[sI G k]? = some cell ∧ cell.vm.isStatics = false ∧ s.vm.findClass "java/lang/Integer" = some cell.cls := va_Orecv (hZ.2.2.2.2.2.2.2.1 k hk) hS
theorem mq_anyR (hZ : mq_Z G A s s.heap) {C : String} (hm : (C, "java/lang/Object") ∈ mq_Cl) (h : ∃ cell : Cell, H[a]? = some cell ∧ cell.vm.isStatics = false ∧ s.vm.findClass C = some cell.cls) : va_Any "java/lang/Object" s H a := by
  obtain ⟨cell, h1, h2, h3⟩ := h
  obtain ⟨kC, hkC, -⟩ := Vm.findClass_spec h3
  exact ⟨cell, h1, h2, ⟨kC, hkC⟩, fun comp h => vb_asgC (mq_cast hZ hm) comp _ h h3⟩
theorem mq_any (hK : va_K G.1 vwCl (mq_T G.2) s) (hZ : mq_Z G A s s.heap) (hM : mq_W G.1 A f H) (hS : va_S A s.heap H locs) (h : mq_E G f a) : va_Any "java/lang/Object" s H a := by
  rcases h with ⟨ci, fs, r, h1, h2, h3⟩ | ⟨n, g, h1⟩ | ⟨b, rfl⟩ | ⟨k, hk, rfl⟩
  · exact mq_anyR hZ h3 (mq_recv hK hM h1 h2)
  · exact mq_anyR hZ (C := "[I") (by decide) (mq_recI hK hM h1)
  · exact mq_anyR hZ (C := "java/lang/Boolean") (by decide) (mq_recB hZ hS b)
  · exact mq_anyR hZ (C := "java/lang/Integer") (by decide) (mq_recN hZ hS hk)
theorem mq_astE (hexec : p.tables.exec = Jvm.exec) (hb : c.code = cc) (hK : va_K G.1 vwCl (mq_T G.2) s) (hZ : mq_Z G A s s.heap) (hM : mq_W G.1 A f H) (hS : va_S A s.heap H locs) {n v : Nat} {g : Nat → Option Nat} (hf : f a = some (.inl (G.2 8, n, .inr (.inr (.inr (.inr g)))))) (hv : mq_E G f v) {i : Int32} (hin : vp_in i n) (hdg : decode cc pc = .ok (.aastore, 1))
    (kk : ∀ (f1 : mq_F) (H1 : Heap) (locs1 : List Loc), f1 = mq_up f a (.inl (G.2 8, n, .inr (.inr (.inr (.inr (va_up g i.toNatClampNeg (some v))))))) → mq_W G.1 A f1 H1 → va_S A s.heap H1 locs1 → W p l e R s m args below meth c H1 locs1 cells slots Q (F0 m (pc + 1) ls rest)) : W p l e R s m args below meth c H locs cells slots Q (F0 m pc ls (.ref v :: .int i :: .ref a :: rest)) := by
  obtain ⟨q0, hq⟩ := mq_get0 (hM.lt hf) hf
  exact va_astqM hexec hb hK (hM.P _) (hM.D _) hS q0 8 hq rfl (mq_any hK hZ hM hS hv) hin hdg fun H1 locs1 hP _ hS1 => kk _ H1 locs1 rfl (mq_set hM hf hq hP) hS1
theorem mq_astN (hexec : p.tables.exec = Jvm.exec) (hb : c.code = cc) (hK : va_K G.1 vwCl (mq_T G.2) s) (hM : mq_W G.1 A f H) (hS : va_S A s.heap H locs) {n : Nat} {g : Nat → Option Nat} (hf : f a = some (.inl (G.2 8, n, .inr (.inr (.inr (.inr g)))))) {i : Int32} (hin : vp_in i n) (hdg : decode cc pc = .ok (.aastore, 1))
    (kk : ∀ (f1 : mq_F) (H1 : Heap) (locs1 : List Loc), f1 = mq_up f a (.inl (G.2 8, n, .inr (.inr (.inr (.inr (va_up g i.toNatClampNeg none)))))) → mq_W G.1 A f1 H1 → va_S A s.heap H1 locs1 → W p l e R s m args below meth c H1 locs1 cells slots Q (F0 m (pc + 1) ls rest)) : W p l e R s m args below meth c H locs cells slots Q (F0 m pc ls (.null :: .int i :: .ref a :: rest)) := by
  obtain ⟨q0, hq⟩ := mq_get0 (hM.lt hf) hf
  exact va_astqN hexec hb hK (hM.P _) (hM.D _) hS q0 8 hq rfl hin hdg fun H1 locs1 hP _ hS1 => kk _ H1 locs1 rfl (mq_set hM hf hq hP) hS1
theorem mq_copyM (hexec : p.tables.exec = Jvm.exec) (hb : c.code = cc) (hml : c.maxLocals = ls.size) {own : String} {index : Nat} (hown : s.vm.findClass own = some m.cls) (hlink : (Cond.methodLink own index arraycopyName).before args s = true) (hnat : (Cond.native arraycopyName).before args s = true) (hstat : (Cond.static arraycopyName).before args s = true) (hini : (Cond.initialized "java/lang/System").before args s = true)
    (hK : va_K G.1 vwCl (mq_T G.2) s) (hZ : mq_Z G A s s.heap) (hM : mq_W G.1 A f H) (hS : va_S A s.heap H locs) {a0 n0 n1 : Nat} {g0 g1 : Nat → Option Nat} (hf0 : f a0 = some (.inl (G.2 8, n0, .inr (.inr (.inr (.inr g0)))))) (hf1 : f a = some (.inl (G.2 8, n1, .inr (.inr (.inr (.inr g1))))))
    {n : Int32} (h3 : ¬ n < 0) (h4 : n.toNatClampNeg ≤ n0) (h5 : n.toNatClampNeg ≤ n1) (hel : ∀ i : Nat, i < n.toNatClampNeg → ∀ y : Nat, g0 i = some y → mq_E G f y)
    (hframes : 1 ≤ R.frames) (hlocals : (rest.map fun v => v.category).sum + (nativeFrameWords "java/lang/System" "arraycopy" 5 + 11) ≤ R.locals) (hdg : decode cc pc = .ok (.invokestatic index, 3))
    (kk : ∀ (f1 : mq_F) (H1 : Heap) (locs1 : List Loc), f1 = mq_up f a (.inl (G.2 8, n1, .inr (.inr (.inr (.inr (va_cpy g0 g1 0 0 n.toNatClampNeg)))))) → mq_W G.1 A f1 H1 → va_S A s.heap H1 locs1 → W p l e R s m args below meth c H1 locs1 cells slots Q (F0 m (pc + 3) ls rest)) : W p l e R s m args below meth c H locs cells slots Q (F0 m pc ls (.int n :: .int 0 :: .ref a :: .int 0 :: .ref a0 :: rest)) := by
  obtain ⟨q0, hq0⟩ := mq_get0 (hM.lt hf0) hf0
  obtain ⟨q1, hq1⟩ := mq_get0 (hM.lt hf1) hf1
  exact va_copyM hexec hb hml hown hlink hnat hstat hini hK (hM.P H.size) (hM.D _) hS q0 q1 8 8 hq0 hq1 rfl rfl (by decide) (by decide) h3 (by show 0 + _ ≤ _; omega) (by show 0 + _ ≤ _; omega) (fun i hi y hy => mq_any hK hZ hM hS (hel i hi y (by rw [show (0 : Int32).toNatClampNeg + i = i from Nat.zero_add i] at hy; exact hy))) hframes hlocals hdg fun H1 locs1 hP _ hS1 => kk _ H1 locs1 rfl (mq_set hM hf1 hq1 hP) hS1
theorem mq_castG (hexec : p.tables.exec = Jvm.exec) (hb : c.code = cc) {own nm : String} {index : Nat} (hown : s.vm.findClass own = some m.cls) (hlink : (Cond.classLink own index nm).before args s = true) (hr : ∃ cell : Cell, H[a]? = some cell ∧ cell.vm.isStatics = false ∧ s.vm.findClass nm = some cell.cls) (hdg : decode cc pc = .ok (.checkcast index, 3))
    (k : W p l e R s m args below meth c H locs cells slots Q (F0 m (pc + 3) ls (.ref a :: rest))) : W p l e R s m args below meth c H locs cells slots Q (F0 m pc ls (.ref a :: rest)) := by
  obtain ⟨cell, h1, h2, h3⟩ := hr
  intro T hT X
  obtain ⟨vm', X', st⟩ := X.checkcastYes hexec hown hlink (by rw [hT]; exact h1) h2 h3 (va_asg _ _) (g := F0 m pc ls (.ref a :: rest)) rfl rfl (by rw [hb]; exact hdg)
  obtain ⟨t, a1, b1⟩ := k (T.setVm vm') hT X'
  exact ⟨t, st t a1, b1⟩
theorem mq_preVO {P : Prop} {C : String} (hK : va_K G.1 vwCl (mq_T G.2) s) (hZ : mq_Z G A s s.heap) (hS : va_S A s.heap H locs) (hA : ∀ q : Nat, s.heap.size ≤ q → A q) (hM : mq_W G.1 A f H) (hO : ∃ cell : Cell, H[a]? = some cell ∧ cell.vm.isStatics = false ∧ s.vm.findClass C = some cell.cls) (hp : P) (av : List Value) : PreV s H C a (mq_Pc G A f P (.ref a :: av)) av := ⟨mq_blind, hO, mq_at hK hZ hS hA hM hp (.ref a :: av)⟩
theorem mq_callFi {post : Int32 → mq_F → Prop} (hr : va_Run5 p l e R s m args below meth c H locs cells slots mc ms (F0 m pc ls st0) rest (mq_Qi G A post av) A) (hS : va_S A s.heap H locs)
    (kk : ∀ (r : Int32) (g : mq_F) (H1 : Heap) (locs1 : List Loc), post r g → mq_W G.1 A g H1 → va_S A s.heap H1 locs1 → W p l e R s m args below meth c H1 locs1 (cells + mc) (slots + ms) Q (F0 m (pc + 5) ls (.int r :: rest))) : W p l e R s m args below meth c H locs cells slots Q (F0 m pc ls st0) :=
  va_callFi hr hS (fun q _ h => h) (fun q h => h) fun r g t H1 locs1 ht _ hp hB _ _ hS1 => kk r g H1 locs1 hp (ht ▸ hB) hS1
theorem mq_callFq {post : Option Nat → mq_F → Prop} (hr : va_Run5 p l e R s m args below meth c H locs cells slots mc ms (F0 m pc ls st0) rest (mq_Qq G A post av) A) (hS : va_S A s.heap H locs)
    (kk : ∀ (r : Option Nat) (g : mq_F) (H1 : Heap) (locs1 : List Loc), post r g → mq_W G.1 A g H1 → va_S A s.heap H1 locs1 → W p l e R s m args below meth c H1 locs1 (cells + mc) (slots + ms) Q (F0 m (pc + 5) ls (va_rf r :: rest))) : W p l e R s m args below meth c H locs cells slots Q (F0 m pc ls st0) :=
  va_callFq hr hS (fun q _ h => h) (fun q h => h) fun r g t H1 locs1 ht _ hp hB _ _ hS1 => kk r g H1 locs1 hp (ht ▸ hB) hS1
end MQ3
