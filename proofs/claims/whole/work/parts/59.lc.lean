/-! THE LAW, call by call -/
/-- what stands through the whole law: the machine, its words, the classes, the statics, the script -/
def lw_C (p : Program) (s : State) (m : MethodId) (meth : Method) (c : Code) (b L : Nat) (xs : Nat → Int32) (G : mq_G) (A : Nat → Prop) : Prop :=
  p.tables.exec = Jvm.exec ∧ c.code = cL_law ∧ c.maxLocals = 9 ∧ s.vm.findClass RL = some m.cls ∧ (∀ w ∈ wsL_law, w.before #[Value.ref b] s = true) ∧ va_K G.1 vwCl (mq_T G.2) s ∧ mq_Z G A s s.heap ∧ (∀ q : Nat, s.heap.size ≤ q → A q) ∧ lq_N s ∧ va_X b L xs s s.heap ∧ b < s.heap.size ∧ ¬ A b ∧ L ≤ 3072
/-- the loop's next round, behind a call -/
def lw_K (p : Program) (l : Launch) (e : Env) (s : State) (m : MethodId) (below : List Frame) (meth : Method) (c : Code) (b : Nat) (G : mq_G) (A : Nat → Prop) (Q : State → Prop) (T : Nat) : Prop :=
  ∀ (g : mq_F) (ad : AD) (S : AT) (X : CX) (Y : MX) (O : OX), WR G g ad S X S Y O → cOK S X (T + 1) → mCp S Y → ∀ (H : Heap) (locs : List Loc), mq_W G.1 A g H → va_S A s.heap H locs → ∀ (ls : Array Slot), lv_has ls 9 [(0, .ref b), (1, .ref (ad 0 0 0)), (2, .ref (ad 20 0 0)), (3, .ref (ad 38 0 0)), (4, .ref (ad 39 0 0)), (5, .int (nI (6 * T)))] → W p l e room_1 s m #[Value.ref b] below meth c H locs (100 + 1177 * (T + 1)) (20000 + 14000 * (T + 1)) Q (F0 m 1773 ls [])
set_option maxHeartbeats 4000000 in
set_option maxRecDepth 100000 in
theorem lw_case0 (l : Launch) (hfl : l.stackTraces = false) {p : Program} {e : Env} {s : State} {m : MethodId} {below : List Frame} {meth : Method} {c : Code} {b L : Nat} {xs : Nat → Int32} {G : mq_G} {A : Nat → Prop} {Q : State → Prop} (hC0 : lw_C p s m meth c b L xs G A) {f : mq_F} {ad : AD} {S : AT} {X : CX} {Y : MX} {O : OX} {T : Nat} (hR : WR G f ad S X S Y O) (hO : cOK S X T) (hC : mCp S Y) (hT5 : T < 512) (hTL : 6 * T + 6 ≤ L) (K : lw_K p l e s m below meth c b G A Q T) {H : Heap} {locs : List Loc} (hM : mq_W G.1 A f H) (hS : va_S A s.heap H locs) {ls : Array Slot} (hl : lv_has ls 9 [(0, .ref b), (1, .ref (ad 0 0 0)), (2, .ref (ad 20 0 0)), (3, .ref (ad 38 0 0)), (4, .ref (ad 39 0 0)), (5, .int (nI (6 * T)))]) : W p l e room_1 s m #[Value.ref b] below meth c H locs (100 + 1177 * T) (20000 + 14000 * T) Q (F0 m 160 ls []) := by
  obtain ⟨hx, hb, hml, hown, hts, hK, hZ, hA, hN, hX, hbl, hbA, hL⟩ := hC0
  have y0 := hR.1 _ _ _ _ t0
  refine lv_aload_n hx hb dL_law_160 rfl (lv_at hl 1 rfl) ?_
  refine lv_aload_n hx hb dL_law_161 rfl (lv_at hl 0 rfl) ?_
  refine lv_iload hx hb dL_law_162 (lv_at hl 5 rfl) ?_
  refine lv_iconst (v := 1) hx hb dL_law_164 (by decide) ?_
  refine lv_iadd hx hb dL_law_165 ?_
  rw [show (nI (6 * T)) + 1 = nI ((6 * T) + 1) from nI_add _ _]
  refine va_sld hx hb hX hbl hbA hS (vp_in_nI (by omega) (by omega)) dL_law_166 ?_
  rw [show (nI ((6 * T) + 1) : Int32).toNatClampNeg = (6 * T) + 1 from nI_clamp (by omega)]
  refine lv_aload_n hx hb dL_law_167 rfl (lv_at hl 0 rfl) ?_
  refine lv_iload hx hb dL_law_168 (lv_at hl 5 rfl) ?_
  refine lv_iconst (v := 2) hx hb dL_law_170 (by decide) ?_
  refine lv_iadd hx hb dL_law_171 ?_
  rw [show (nI (6 * T)) + 2 = nI ((6 * T) + 2) from nI_add _ _]
  refine va_sld hx hb hX hbl hbA hS (vp_in_nI (by omega) (by omega)) dL_law_172 ?_
  rw [show (nI ((6 * T) + 2) : Int32).toNatClampNeg = (6 * T) + 2 from nI_clamp (by omega)]
  refine lv_aload_n hx hb dL_law_173 rfl (lv_at hl 0 rfl) ?_
  refine lv_iload hx hb dL_law_174 (lv_at hl 5 rfl) ?_
  refine lv_iconst (v := 3) hx hb dL_law_176 (by decide) ?_
  refine lv_iadd hx hb dL_law_177 ?_
  rw [show (nI (6 * T)) + 3 = nI ((6 * T) + 3) from nI_add _ _]
  refine va_sld hx hb hX hbl hbA hS (vp_in_nI (by omega) (by omega)) dL_law_178 ?_
  rw [show (nI ((6 * T) + 3) : Int32).toNatClampNeg = (6 * T) + 3 from nI_clamp (by omega)]
  refine lv_aload_n hx hb dL_law_179 rfl (lv_at hl 3 rfl) ?_
  refine mq_calli (vx_runSW (As := [.ref (ad 0 0 0), .int (xs ((6 * T) + 1)), .int (xs ((6 * T) + 2)), .int (xs ((6 * T) + 3)), .ref (ad 38 0 0)]) (rest := []) ⟨hx, hb, hml, hown, hts⟩ (c_L_addSkill l hfl G A f ad S X S Y O T (xs (6 * T + 1)) (xs (6 * T + 2)) (xs (6 * T + 3))) (vx_cwSW 5 hts gL_law_L_addSkill rfl rfl rfl (by decide +kernel) ⟨Nat.le_of_ble_eq_true rfl, Nat.le_of_ble_eq_true rfl⟩) (lq_preS hK hZ hS hA hM hN (⟨hR, hO, hT5⟩) _) rfl rfl hl.1 rfl (lv_room (Nat.le_of_ble_eq_true rfl)) dL_law_180 ⟨by show (100 + 1177 * T) + 4 ≤ 603072; omega, by show (20000 + 14000 * T) + 24 ≤ 7194729; omega⟩) hS (fun r180 g180 H locs p180 hM hS => ?_)
  refine W.widen (k := (100 + 1177 * T + 4)) (n := (20000 + 14000 * T + 24)) (by omega) (by omega) ?_
  obtain ⟨c9, v9, S9, X9, O9, ad9, e9, rfl, hc9, hv9, hR9, hO9, hk9⟩ := p180
  have y20 := hR9.1 20 0 0 _ t20
  refine lv_istore (lv' := [(6, .int (nI c9)), (0, .ref b), (1, .ref (ad 0 0 0)), (2, .ref (ad 20 0 0)), (3, .ref (ad 38 0 0)), (4, .ref (ad 39 0 0)), (5, .int (nI (6 * T)))]) hx hb dL_law_183 hl (by decide) rfl (fun ls hl => ?_)
  rw [← hk9.1, ← hk9.2.1, ← hk9.2.2.1, ← hk9.2.2.2] at hl
  refine lv_aload_n hx hb dL_law_185 rfl (lv_at hl 3 rfl) ?_
  refine lv_aload_n hx hb dL_law_186 rfl (lv_at hl 1 rfl) ?_
  refine lv_iload hx hb dL_law_187 (lv_at hl 6 rfl) ?_
  refine lv_iconst (v := 1) hx hb dL_law_189 (by decide) ?_
  refine lv_iadd hx hb dL_law_190 ?_
  rw [show (nI (6 * T)) + 1 = nI ((6 * T) + 1) from nI_add _ _]
  refine va_sld hx hb hX hbl hbA hS (vp_in_nI (by omega) (by omega)) dL_law_191 ?_
  rw [show (nI ((6 * T) + 1) : Int32).toNatClampNeg = (6 * T) + 1 from nI_clamp (by omega)]
  refine lv_aload_n hx hb dL_law_192 rfl (lv_at hl 1 rfl) ?_
  refine lv_iload hx hb dL_law_193 (lv_at hl 6 rfl) ?_
  refine lv_iconst (v := 2) hx hb dL_law_195 (by decide) ?_
  refine lv_iadd hx hb dL_law_196 ?_
  rw [show (nI (6 * T)) + 2 = nI ((6 * T) + 2) from nI_add _ _]
  refine va_sld hx hb hX hbl hbA hS (vp_in_nI (by omega) (by omega)) dL_law_197 ?_
  rw [show (nI ((6 * T) + 2) : Int32).toNatClampNeg = (6 * T) + 2 from nI_clamp (by omega)]
  refine lv_aload_n hx hb dL_law_198 rfl (lv_at hl 1 rfl) ?_
  refine lv_iload hx hb dL_law_199 (lv_at hl 6 rfl) ?_
  refine lv_iconst (v := 3) hx hb dL_law_201 (by decide) ?_
  refine lv_iadd hx hb dL_law_202 ?_
  rw [show (nI (6 * T)) + 3 = nI ((6 * T) + 3) from nI_add _ _]
  refine va_sld hx hb hX hbl hbA hS (vp_in_nI (by omega) (by omega)) dL_law_203 ?_
  rw [show (nI ((6 * T) + 3) : Int32).toNatClampNeg = (6 * T) + 3 from nI_clamp (by omega)]
  refine mq_calli (va_runV (As := [.int (xs ((6 * T) + 1)), .int (xs ((6 * T) + 2)), .int (xs ((6 * T) + 3))]) (rest := []) ⟨hx, hb, hml, hown, hts⟩ (c_X11_addSkill l G A g180 ad9 S9 X9 S Y O9 T (xs (6 * T + 1)) (xs (6 * T + 2)) (xs (6 * T + 3))) (cwV 3 hts gL_law_X11_addSkill rfl rfl rfl (by decide +kernel) ⟨Nat.le_of_ble_eq_true rfl, Nat.le_of_ble_eq_true rfl⟩) (mq_preV hK hZ hS hA hM (q := (RX11, TX11, 4)) y20 rfl (⟨hR9, ⟨⟨X, hO⟩, hC⟩⟩) _) rfl rfl hl.1 rfl (lv_room (Nat.le_of_ble_eq_true rfl)) dL_law_204 ⟨by show (100 + 1177 * T + 4) + 3 ≤ 603072; omega, by show (20000 + 14000 * T + 24) + 24 ≤ 7194729; omega⟩) hS (fun r204 g204 H locs p204 hM hS => ?_)
  refine W.widen (k := (100 + 1177 * T + 7)) (n := (20000 + 14000 * T + 48)) (by omega) (by omega) ?_
  obtain ⟨c8, S8, Y8, ad8, e8, hR8, hC8, hk8⟩ := p204
  obtain ⟨rfl, e7⟩ := Prod.mk.inj (e9.symm.trans e8)
  obtain ⟨rfl, rfl⟩ := Prod.mk.inj e7
  have y20b := hR8.1 20 0 0 _ t20
  refine lv_istore (lv' := [(7, .int v9), (6, .int (nI c9)), (0, .ref b), (1, .ref (ad9 0 0 0)), (2, .ref (ad9 20 0 0)), (3, .ref (ad9 38 0 0)), (4, .ref (ad9 39 0 0)), (5, .int (nI (6 * T)))]) hx hb dL_law_207 hl (by decide) rfl (fun ls hl => ?_)
  rw [← hk8.1, ← hk8.2.1, ← hk8.2.2.1, ← hk8.2.2.2] at hl
  refine lv_aload_n hx hb dL_law_209 rfl (lv_at hl 4 rfl) ?_
  refine mq_calli (va_runV (As := []) (rest := []) ⟨hx, hb, hml, hown, hts⟩ (c_X11_thrown l G A g204 (ad8 20 0 0) (yT (yThr Y8 (nI c9))) (nI (aD S9)) (ad8 21 0 0) (ad8 23 0 0)) (cwV 0 hts gL_law_X11_thrown rfl rfl rfl (by decide +kernel) ⟨Nat.le_of_ble_eq_true rfl, Nat.le_of_ble_eq_true rfl⟩) (mq_preV hK hZ hS hA hM (q := (RX11, TX11, 4)) y20b rfl (y20b) _) rfl rfl hl.1 rfl (lv_room (Nat.le_of_ble_eq_true rfl)) dL_law_210 ⟨by show (100 + 1177 * T + 7) + 0 ≤ 603072; omega, by show (20000 + 14000 * T + 48) + 0 ≤ 7194729; omega⟩) hS (fun r210 g210 H locs p210 hM hS => ?_)
  refine W.widen (k := (100 + 1177 * T + 7)) (n := (20000 + 14000 * T + 48)) (by omega) (by omega) ?_
  obtain ⟨rfl, hr3⟩ := p210
  have hr3 : r210 = nI c9 := hr3
  subst hr3
  refine lv_iload hx hb dL_law_213 (lv_at hl 1 rfl) ?_
  refine lv_icmp_eq (tgt := 220) hx hb dL_law_215 (by decide) (fun c_215 => ?_) (fun c_215 => (by exact absurd rfl c_215))
  refine lv_iload hx hb dL_law_220 (lv_at hl 1 rfl) ?_
  refine lv_if_ne (tgt := 237) hx hb dL_law_222 (by decide) (fun c_222 => ?_) (fun c_222 => ?_)
  · replace c_222 : ¬ nI c9 = nI 0 := c_222
    rw [nI_eq (by omega) (by omega)] at c_222
    refine lv_goto (tgt := 1773) hx hb dL_law_237 (by decide) ?_
    exact W.widen (by omega) (by omega) (K _ _ _ _ _ _ (hR8) (hO9) (hC8) _ _ hM hS _ (lv_sub hl [2, 3, 4, 5, 6, 7] rfl))
  · replace c_222 : nI c9 = nI 0 := c_222
    rw [nI_eq (by omega) (by omega)] at c_222
    have y38 := hR8.1 38 0 0 _ t38
    refine lv_aload_n hx hb dL_law_225 rfl (lv_at hl 5 rfl) ?_
    refine lv_iconst (v := 0) hx hb dL_law_226 (by decide) ?_
    refine mq_lald hx hb hK hM y38 (vp_in_nI (n := 0) (by decide) (by decide)) dL_law_227 ?_
    rw [show (0 : Int32).toNatClampNeg = 0 from rfl]
    rw [show O9.1 0 = v9.toInt64 from hv9 c_222]
    refine lv_iload hx hb dL_law_228 (lv_at hl 0 rfl) ?_
    refine lv_i2l hx hb dL_law_230 rfl ?_
    refine W.lcmp hx hb dL_law_231 ?_
    refine lv_if_eq (tgt := 237) hx hb dL_law_232 (by decide) (fun c_232 => ?_) (fun c_232 => (by exact absurd ((lg_cmp_eq _ _).mpr rfl) c_232))
    refine lv_goto (tgt := 1773) hx hb dL_law_237 (by decide) ?_
    exact W.widen (by omega) (by omega) (K _ _ _ _ _ _ (hR8) (hO9) (hC8) _ _ hM hS _ (lv_sub hl [2, 3, 4, 5, 6, 7] rfl))

set_option maxHeartbeats 4000000 in
set_option maxRecDepth 100000 in
theorem lw_case1 (l : Launch) (hfl : l.stackTraces = false) {p : Program} {e : Env} {s : State} {m : MethodId} {below : List Frame} {meth : Method} {c : Code} {b L : Nat} {xs : Nat → Int32} {G : mq_G} {A : Nat → Prop} {Q : State → Prop} (hC0 : lw_C p s m meth c b L xs G A) {f : mq_F} {ad : AD} {S : AT} {X : CX} {Y : MX} {O : OX} {T : Nat} (hR : WR G f ad S X S Y O) (hO : cOK S X T) (hC : mCp S Y) (hT5 : T < 512) (hTL : 6 * T + 6 ≤ L) (K : lw_K p l e s m below meth c b G A Q T) {H : Heap} {locs : List Loc} (hM : mq_W G.1 A f H) (hS : va_S A s.heap H locs) {ls : Array Slot} (hl : lv_has ls 9 [(0, .ref b), (1, .ref (ad 0 0 0)), (2, .ref (ad 20 0 0)), (3, .ref (ad 38 0 0)), (4, .ref (ad 39 0 0)), (5, .int (nI (6 * T)))]) : W p l e room_1 s m #[Value.ref b] below meth c H locs (100 + 1177 * T) (20000 + 14000 * T) Q (F0 m 240 ls []) := by
  obtain ⟨hx, hb, hml, hown, hts, hK, hZ, hA, hN, hX, hbl, hbA, hL⟩ := hC0
  have y0 := hR.1 _ _ _ _ t0
  refine lv_aload_n hx hb dL_law_240 rfl (lv_at hl 1 rfl) ?_
  refine lv_aload_n hx hb dL_law_241 rfl (lv_at hl 0 rfl) ?_
  refine lv_iload hx hb dL_law_242 (lv_at hl 5 rfl) ?_
  refine lv_iconst (v := 1) hx hb dL_law_244 (by decide) ?_
  refine lv_iadd hx hb dL_law_245 ?_
  rw [show (nI (6 * T)) + 1 = nI ((6 * T) + 1) from nI_add _ _]
  refine va_sld hx hb hX hbl hbA hS (vp_in_nI (by omega) (by omega)) dL_law_246 ?_
  rw [show (nI ((6 * T) + 1) : Int32).toNatClampNeg = (6 * T) + 1 from nI_clamp (by omega)]
  refine lv_aload_n hx hb dL_law_247 rfl (lv_at hl 0 rfl) ?_
  refine lv_iload hx hb dL_law_248 (lv_at hl 5 rfl) ?_
  refine lv_iconst (v := 2) hx hb dL_law_250 (by decide) ?_
  refine lv_iadd hx hb dL_law_251 ?_
  rw [show (nI (6 * T)) + 2 = nI ((6 * T) + 2) from nI_add _ _]
  refine va_sld hx hb hX hbl hbA hS (vp_in_nI (by omega) (by omega)) dL_law_252 ?_
  rw [show (nI ((6 * T) + 2) : Int32).toNatClampNeg = (6 * T) + 2 from nI_clamp (by omega)]
  refine lv_aload_n hx hb dL_law_253 rfl (lv_at hl 3 rfl) ?_
  refine mq_calli (vx_runSW (As := [.ref (ad 0 0 0), .int (xs ((6 * T) + 1)), .int (xs ((6 * T) + 2)), .ref (ad 38 0 0)]) (rest := []) ⟨hx, hb, hml, hown, hts⟩ (c_L_addNeed l hfl G A f ad S X S Y O T (xs (6 * T + 1)) (xs (6 * T + 2))) (vx_cwSW 4 hts gL_law_L_addNeed rfl rfl rfl (by decide +kernel) ⟨Nat.le_of_ble_eq_true rfl, Nat.le_of_ble_eq_true rfl⟩) (lq_preS hK hZ hS hA hM hN (⟨hR, hO, hT5⟩) _) rfl rfl hl.1 rfl (lv_room (Nat.le_of_ble_eq_true rfl)) dL_law_254 ⟨by show (100 + 1177 * T) + 3 ≤ 603072; omega, by show (20000 + 14000 * T) + 18 ≤ 7194729; omega⟩) hS (fun r254 g254 H locs p254 hM hS => ?_)
  refine W.widen (k := (100 + 1177 * T + 3)) (n := (20000 + 14000 * T + 18)) (by omega) (by omega) ?_
  obtain ⟨c9, v9, S9, X9, O9, ad9, e9, rfl, hc9, hv9, hR9, hO9, hk9⟩ := p254
  have y20 := hR9.1 20 0 0 _ t20
  refine lv_istore (lv' := [(6, .int (nI c9)), (0, .ref b), (1, .ref (ad 0 0 0)), (2, .ref (ad 20 0 0)), (3, .ref (ad 38 0 0)), (4, .ref (ad 39 0 0)), (5, .int (nI (6 * T)))]) hx hb dL_law_257 hl (by decide) rfl (fun ls hl => ?_)
  rw [← hk9.1, ← hk9.2.1, ← hk9.2.2.1, ← hk9.2.2.2] at hl
  refine lv_aload_n hx hb dL_law_259 rfl (lv_at hl 3 rfl) ?_
  refine lv_aload_n hx hb dL_law_260 rfl (lv_at hl 1 rfl) ?_
  refine lv_iload hx hb dL_law_261 (lv_at hl 6 rfl) ?_
  refine lv_iconst (v := 1) hx hb dL_law_263 (by decide) ?_
  refine lv_iadd hx hb dL_law_264 ?_
  rw [show (nI (6 * T)) + 1 = nI ((6 * T) + 1) from nI_add _ _]
  refine va_sld hx hb hX hbl hbA hS (vp_in_nI (by omega) (by omega)) dL_law_265 ?_
  rw [show (nI ((6 * T) + 1) : Int32).toNatClampNeg = (6 * T) + 1 from nI_clamp (by omega)]
  refine lv_aload_n hx hb dL_law_266 rfl (lv_at hl 1 rfl) ?_
  refine lv_iload hx hb dL_law_267 (lv_at hl 6 rfl) ?_
  refine lv_iconst (v := 2) hx hb dL_law_269 (by decide) ?_
  refine lv_iadd hx hb dL_law_270 ?_
  rw [show (nI (6 * T)) + 2 = nI ((6 * T) + 2) from nI_add _ _]
  refine va_sld hx hb hX hbl hbA hS (vp_in_nI (by omega) (by omega)) dL_law_271 ?_
  rw [show (nI ((6 * T) + 2) : Int32).toNatClampNeg = (6 * T) + 2 from nI_clamp (by omega)]
  refine mq_calli (va_runV (As := [.int (xs ((6 * T) + 1)), .int (xs ((6 * T) + 2))]) (rest := []) ⟨hx, hb, hml, hown, hts⟩ (c_X11_addNeed l G A g254 ad9 S9 X9 S Y O9 T (xs (6 * T + 1)) (xs (6 * T + 2))) (cwV 2 hts gL_law_X11_addNeed rfl rfl rfl (by decide +kernel) ⟨Nat.le_of_ble_eq_true rfl, Nat.le_of_ble_eq_true rfl⟩) (mq_preV hK hZ hS hA hM (q := (RX11, TX11, 4)) y20 rfl (⟨hR9, ⟨⟨X, hO⟩, hC⟩⟩) _) rfl rfl hl.1 rfl (lv_room (Nat.le_of_ble_eq_true rfl)) dL_law_272 ⟨by show (100 + 1177 * T + 3) + 1 ≤ 603072; omega, by show (20000 + 14000 * T + 18) + 10 ≤ 7194729; omega⟩) hS (fun r272 g272 H locs p272 hM hS => ?_)
  refine W.widen (k := (100 + 1177 * T + 4)) (n := (20000 + 14000 * T + 28)) (by omega) (by omega) ?_
  obtain ⟨c8, S8, e8, hR8, hC8⟩ := p272
  obtain ⟨rfl, e7⟩ := Prod.mk.inj (e9.symm.trans e8)
  obtain ⟨rfl, rfl⟩ := Prod.mk.inj e7
  have y20b := hR8.1 20 0 0 _ t20
  refine lv_istore (lv' := [(7, .int v9), (6, .int (nI c9)), (0, .ref b), (1, .ref (ad9 0 0 0)), (2, .ref (ad9 20 0 0)), (3, .ref (ad9 38 0 0)), (4, .ref (ad9 39 0 0)), (5, .int (nI (6 * T)))]) hx hb dL_law_275 hl (by decide) rfl (fun ls hl => ?_)
  refine lv_aload_n hx hb dL_law_277 rfl (lv_at hl 4 rfl) ?_
  refine mq_calli (va_runV (As := []) (rest := []) ⟨hx, hb, hml, hown, hts⟩ (c_X11_thrown l G A g272 (ad9 20 0 0) (yT (yThr Y (nI c9))) (nI (aD S9)) (ad9 21 0 0) (ad9 23 0 0)) (cwV 0 hts gL_law_X11_thrown rfl rfl rfl (by decide +kernel) ⟨Nat.le_of_ble_eq_true rfl, Nat.le_of_ble_eq_true rfl⟩) (mq_preV hK hZ hS hA hM (q := (RX11, TX11, 4)) y20b rfl (y20b) _) rfl rfl hl.1 rfl (lv_room (Nat.le_of_ble_eq_true rfl)) dL_law_278 ⟨by show (100 + 1177 * T + 4) + 0 ≤ 603072; omega, by show (20000 + 14000 * T + 28) + 0 ≤ 7194729; omega⟩) hS (fun r278 g278 H locs p278 hM hS => ?_)
  refine W.widen (k := (100 + 1177 * T + 4)) (n := (20000 + 14000 * T + 28)) (by omega) (by omega) ?_
  obtain ⟨rfl, hr3⟩ := p278
  have hr3 : r278 = nI c9 := hr3
  subst hr3
  refine lv_iload hx hb dL_law_281 (lv_at hl 1 rfl) ?_
  refine lv_icmp_eq (tgt := 288) hx hb dL_law_283 (by decide) (fun c_283 => ?_) (fun c_283 => (by exact absurd rfl c_283))
  refine lv_iload hx hb dL_law_288 (lv_at hl 1 rfl) ?_
  refine lv_if_ne (tgt := 312) hx hb dL_law_290 (by decide) (fun c_290 => ?_) (fun c_290 => ?_)
  · replace c_290 : ¬ nI c9 = nI 0 := c_290
    rw [nI_eq (by omega) (by omega)] at c_290
    refine lv_goto (tgt := 1773) hx hb dL_law_312 (by decide) ?_
    exact W.widen (by omega) (by omega) (K _ _ _ _ _ _ (hR8) (hO9) (hC8) _ _ hM hS _ (lv_sub hl [2, 3, 4, 5, 6, 7] rfl))
  · replace c_290 : nI c9 = nI 0 := c_290
    rw [nI_eq (by omega) (by omega)] at c_290
    have y38 := hR8.1 38 0 0 _ t38
    refine lv_aload_n hx hb dL_law_293 rfl (lv_at hl 5 rfl) ?_
    refine lv_iconst (v := 0) hx hb dL_law_294 (by decide) ?_
    refine mq_lald hx hb hK hM y38 (vp_in_nI (n := 0) (by decide) (by decide)) dL_law_295 ?_
    rw [show (0 : Int32).toNatClampNeg = 0 from rfl]
    rw [show O9.1 0 = (if v9 = 0 then 0 else 1 : Int64) from hv9 c_290]
    refine lv_iload hx hb dL_law_296 (lv_at hl 0 rfl) ?_
    refine lv_if_eq (tgt := 305) hx hb dL_law_298 (by decide) (fun c_298 => ?_) (fun c_298 => ?_)
    · refine lv_lconst (v := 0) hx hb dL_law_305 (by decide) ?_
      refine W.lcmp hx hb dL_law_306 ?_
      refine lv_if_eq (tgt := 312) hx hb dL_law_307 (by decide) (fun c_307 => ?_) (fun c_307 => (by exact absurd ((lg_cmp_eq _ _).mpr (if_pos c_298)) c_307))
      refine lv_goto (tgt := 1773) hx hb dL_law_312 (by decide) ?_
      exact W.widen (by omega) (by omega) (K _ _ _ _ _ _ (hR8) (hO9) (hC8) _ _ hM hS _ (lv_sub hl [2, 3, 4, 5, 6, 7] rfl))
    · refine lv_lconst (v := 1) hx hb dL_law_301 (by decide) ?_
      refine lv_goto (tgt := 306) hx hb dL_law_302 (by decide) ?_
      refine W.lcmp hx hb dL_law_306 ?_
      refine lv_if_eq (tgt := 312) hx hb dL_law_307 (by decide) (fun c_307 => ?_) (fun c_307 => (by exact absurd ((lg_cmp_eq _ _).mpr (if_neg c_298)) c_307))
      refine lv_goto (tgt := 1773) hx hb dL_law_312 (by decide) ?_
      exact W.widen (by omega) (by omega) (K _ _ _ _ _ _ (hR8) (hO9) (hC8) _ _ hM hS _ (lv_sub hl [2, 3, 4, 5, 6, 7] rfl))

set_option maxHeartbeats 4000000 in
set_option maxRecDepth 100000 in
theorem lw_case2 (l : Launch) (hfl : l.stackTraces = false) {p : Program} {e : Env} {s : State} {m : MethodId} {below : List Frame} {meth : Method} {c : Code} {b L : Nat} {xs : Nat → Int32} {G : mq_G} {A : Nat → Prop} {Q : State → Prop} (hC0 : lw_C p s m meth c b L xs G A) {f : mq_F} {ad : AD} {S : AT} {X : CX} {Y : MX} {O : OX} {T : Nat} (hR : WR G f ad S X S Y O) (hO : cOK S X T) (hC : mCp S Y) (hT5 : T < 512) (hTL : 6 * T + 6 ≤ L) (K : lw_K p l e s m below meth c b G A Q T) {H : Heap} {locs : List Loc} (hM : mq_W G.1 A f H) (hS : va_S A s.heap H locs) {ls : Array Slot} (hl : lv_has ls 9 [(0, .ref b), (1, .ref (ad 0 0 0)), (2, .ref (ad 20 0 0)), (3, .ref (ad 38 0 0)), (4, .ref (ad 39 0 0)), (5, .int (nI (6 * T)))]) : W p l e room_1 s m #[Value.ref b] below meth c H locs (100 + 1177 * T) (20000 + 14000 * T) Q (F0 m 315 ls []) := by
  obtain ⟨hx, hb, hml, hown, hts, hK, hZ, hA, hN, hX, hbl, hbA, hL⟩ := hC0
  have y0 := hR.1 _ _ _ _ t0
  refine lv_aload_n hx hb dL_law_315 rfl (lv_at hl 1 rfl) ?_
  refine lv_aload_n hx hb dL_law_316 rfl (lv_at hl 3 rfl) ?_
  refine mq_calli (vx_runSW (As := [.ref (ad 0 0 0), .ref (ad 38 0 0)]) (rest := []) ⟨hx, hb, hml, hown, hts⟩ (c_L_addLearner l hfl G A f ad S X S Y O T) (vx_cwSW 2 hts gL_law_L_addLearner rfl rfl rfl (by decide +kernel) ⟨Nat.le_of_ble_eq_true rfl, Nat.le_of_ble_eq_true rfl⟩) (lq_preS hK hZ hS hA hM hN (⟨hR, hO, hT5⟩) _) rfl rfl hl.1 rfl (lv_room (Nat.le_of_ble_eq_true rfl)) dL_law_317 ⟨by show (100 + 1177 * T) + 24 ≤ 603072; omega, by show (20000 + 14000 * T) + 174 ≤ 7194729; omega⟩) hS (fun r317 g317 H locs p317 hM hS => ?_)
  refine W.widen (k := (100 + 1177 * T + 24)) (n := (20000 + 14000 * T + 174)) (by omega) (by omega) ?_
  obtain ⟨c9, v9, S9, X9, O9, ad9, e9, rfl, hc9, hv9, hR9, hO9, hk9⟩ := p317
  have y20 := hR9.1 20 0 0 _ t20
  refine lv_istore (lv' := [(6, .int (nI c9)), (0, .ref b), (1, .ref (ad 0 0 0)), (2, .ref (ad 20 0 0)), (3, .ref (ad 38 0 0)), (4, .ref (ad 39 0 0)), (5, .int (nI (6 * T)))]) hx hb dL_law_320 hl (by decide) rfl (fun ls hl => ?_)
  rw [← hk9.1, ← hk9.2.1, ← hk9.2.2.1, ← hk9.2.2.2] at hl
  refine lv_aload_n hx hb dL_law_322 rfl (lv_at hl 3 rfl) ?_
  refine mq_calli (va_runV (As := []) (rest := []) ⟨hx, hb, hml, hown, hts⟩ (c_X11_addLearner l G A g317 ad9 S9 X9 S Y O9 T) (cwV 0 hts gL_law_X11_addLearner rfl rfl rfl (by decide +kernel) ⟨Nat.le_of_ble_eq_true rfl, Nat.le_of_ble_eq_true rfl⟩) (mq_preV hK hZ hS hA hM (q := (RX11, TX11, 4)) y20 rfl (⟨hR9, ⟨⟨X, hO⟩, hC⟩⟩) _) rfl rfl hl.1 rfl (lv_room (Nat.le_of_ble_eq_true rfl)) dL_law_323 ⟨by show (100 + 1177 * T + 24) + 24 ≤ 603072; omega, by show (20000 + 14000 * T + 174) + 121 ≤ 7194729; omega⟩) hS (fun r323 g323 H locs p323 hM hS => ?_)
  refine W.widen (k := (100 + 1177 * T + 48)) (n := (20000 + 14000 * T + 295)) (by omega) (by omega) ?_
  obtain ⟨c8, S8, Y8, ad8, e8, hR8, hC8, hk8⟩ := p323
  obtain ⟨rfl, e7⟩ := Prod.mk.inj (e9.symm.trans e8)
  obtain ⟨rfl, rfl⟩ := Prod.mk.inj e7
  have y20b := hR8.1 20 0 0 _ t20
  refine lv_istore (lv' := [(7, .int v9), (6, .int (nI c9)), (0, .ref b), (1, .ref (ad9 0 0 0)), (2, .ref (ad9 20 0 0)), (3, .ref (ad9 38 0 0)), (4, .ref (ad9 39 0 0)), (5, .int (nI (6 * T)))]) hx hb dL_law_326 hl (by decide) rfl (fun ls hl => ?_)
  rw [← hk8.1, ← hk8.2.1, ← hk8.2.2.1, ← hk8.2.2.2] at hl
  refine lv_aload_n hx hb dL_law_328 rfl (lv_at hl 4 rfl) ?_
  refine mq_calli (va_runV (As := []) (rest := []) ⟨hx, hb, hml, hown, hts⟩ (c_X11_thrown l G A g323 (ad8 20 0 0) (yT (yThr Y8 (nI c9))) (nI (aD S9)) (ad8 21 0 0) (ad8 23 0 0)) (cwV 0 hts gL_law_X11_thrown rfl rfl rfl (by decide +kernel) ⟨Nat.le_of_ble_eq_true rfl, Nat.le_of_ble_eq_true rfl⟩) (mq_preV hK hZ hS hA hM (q := (RX11, TX11, 4)) y20b rfl (y20b) _) rfl rfl hl.1 rfl (lv_room (Nat.le_of_ble_eq_true rfl)) dL_law_329 ⟨by show (100 + 1177 * T + 48) + 0 ≤ 603072; omega, by show (20000 + 14000 * T + 295) + 0 ≤ 7194729; omega⟩) hS (fun r329 g329 H locs p329 hM hS => ?_)
  refine W.widen (k := (100 + 1177 * T + 48)) (n := (20000 + 14000 * T + 295)) (by omega) (by omega) ?_
  obtain ⟨rfl, hr3⟩ := p329
  have hr3 : r329 = nI c9 := hr3
  subst hr3
  refine lv_iload hx hb dL_law_332 (lv_at hl 1 rfl) ?_
  refine lv_icmp_eq (tgt := 339) hx hb dL_law_334 (by decide) (fun c_334 => ?_) (fun c_334 => (by exact absurd rfl c_334))
  refine lv_iload hx hb dL_law_339 (lv_at hl 1 rfl) ?_
  refine lv_if_ne (tgt := 356) hx hb dL_law_341 (by decide) (fun c_341 => ?_) (fun c_341 => ?_)
  · replace c_341 : ¬ nI c9 = nI 0 := c_341
    rw [nI_eq (by omega) (by omega)] at c_341
    refine lv_goto (tgt := 1773) hx hb dL_law_356 (by decide) ?_
    exact W.widen (by omega) (by omega) (K _ _ _ _ _ _ (hR8) (hO9) (hC8) _ _ hM hS _ (lv_sub hl [2, 3, 4, 5, 6, 7] rfl))
  · replace c_341 : nI c9 = nI 0 := c_341
    rw [nI_eq (by omega) (by omega)] at c_341
    have y38 := hR8.1 38 0 0 _ t38
    refine lv_aload_n hx hb dL_law_344 rfl (lv_at hl 5 rfl) ?_
    refine lv_iconst (v := 0) hx hb dL_law_345 (by decide) ?_
    refine mq_lald hx hb hK hM y38 (vp_in_nI (n := 0) (by decide) (by decide)) dL_law_346 ?_
    rw [show (0 : Int32).toNatClampNeg = 0 from rfl]
    rw [show O9.1 0 = v9.toInt64 from hv9 c_341]
    refine lv_iload hx hb dL_law_347 (lv_at hl 0 rfl) ?_
    refine lv_i2l hx hb dL_law_349 rfl ?_
    refine W.lcmp hx hb dL_law_350 ?_
    refine lv_if_eq (tgt := 356) hx hb dL_law_351 (by decide) (fun c_351 => ?_) (fun c_351 => (by exact absurd ((lg_cmp_eq _ _).mpr rfl) c_351))
    refine lv_goto (tgt := 1773) hx hb dL_law_356 (by decide) ?_
    exact W.widen (by omega) (by omega) (K _ _ _ _ _ _ (hR8) (hO9) (hC8) _ _ hM hS _ (lv_sub hl [2, 3, 4, 5, 6, 7] rfl))

set_option maxHeartbeats 4000000 in
set_option maxRecDepth 100000 in
theorem lw_case3 (l : Launch) (hfl : l.stackTraces = false) {p : Program} {e : Env} {s : State} {m : MethodId} {below : List Frame} {meth : Method} {c : Code} {b L : Nat} {xs : Nat → Int32} {G : mq_G} {A : Nat → Prop} {Q : State → Prop} (hC0 : lw_C p s m meth c b L xs G A) {f : mq_F} {ad : AD} {S : AT} {X : CX} {Y : MX} {O : OX} {T : Nat} (hR : WR G f ad S X S Y O) (hO : cOK S X T) (hC : mCp S Y) (hT5 : T < 512) (hTL : 6 * T + 6 ≤ L) (K : lw_K p l e s m below meth c b G A Q T) {H : Heap} {locs : List Loc} (hM : mq_W G.1 A f H) (hS : va_S A s.heap H locs) {ls : Array Slot} (hl : lv_has ls 9 [(0, .ref b), (1, .ref (ad 0 0 0)), (2, .ref (ad 20 0 0)), (3, .ref (ad 38 0 0)), (4, .ref (ad 39 0 0)), (5, .int (nI (6 * T)))]) : W p l e room_1 s m #[Value.ref b] below meth c H locs (100 + 1177 * T) (20000 + 14000 * T) Q (F0 m 359 ls []) := by
  obtain ⟨hx, hb, hml, hown, hts, hK, hZ, hA, hN, hX, hbl, hbA, hL⟩ := hC0
  have y0 := hR.1 _ _ _ _ t0
  refine lv_aload_n hx hb dL_law_359 rfl (lv_at hl 1 rfl) ?_
  refine lv_aload_n hx hb dL_law_360 rfl (lv_at hl 0 rfl) ?_
  refine lv_iload hx hb dL_law_361 (lv_at hl 5 rfl) ?_
  refine lv_iconst (v := 1) hx hb dL_law_363 (by decide) ?_
  refine lv_iadd hx hb dL_law_364 ?_
  rw [show (nI (6 * T)) + 1 = nI ((6 * T) + 1) from nI_add _ _]
  refine va_sld hx hb hX hbl hbA hS (vp_in_nI (by omega) (by omega)) dL_law_365 ?_
  rw [show (nI ((6 * T) + 1) : Int32).toNatClampNeg = (6 * T) + 1 from nI_clamp (by omega)]
  refine lv_aload_n hx hb dL_law_366 rfl (lv_at hl 0 rfl) ?_
  refine lv_iload hx hb dL_law_367 (lv_at hl 5 rfl) ?_
  refine lv_iconst (v := 2) hx hb dL_law_369 (by decide) ?_
  refine lv_iadd hx hb dL_law_370 ?_
  rw [show (nI (6 * T)) + 2 = nI ((6 * T) + 2) from nI_add _ _]
  refine va_sld hx hb hX hbl hbA hS (vp_in_nI (by omega) (by omega)) dL_law_371 ?_
  rw [show (nI ((6 * T) + 2) : Int32).toNatClampNeg = (6 * T) + 2 from nI_clamp (by omega)]
  refine lv_aload_n hx hb dL_law_372 rfl (lv_at hl 3 rfl) ?_
  refine mq_calli (vx_runSW (As := [.ref (ad 0 0 0), .int (xs ((6 * T) + 1)), .int (xs ((6 * T) + 2)), .ref (ad 38 0 0)]) (rest := []) ⟨hx, hb, hml, hown, hts⟩ (c_L_open l hfl G A f ad S X S Y O T (xs (6 * T + 1)) (xs (6 * T + 2))) (vx_cwSW 4 hts gL_law_L_open rfl rfl rfl (by decide +kernel) ⟨Nat.le_of_ble_eq_true rfl, Nat.le_of_ble_eq_true rfl⟩) (lq_preS hK hZ hS hA hM hN (⟨hR, hO, hT5⟩) _) rfl rfl hl.1 rfl (lv_room (Nat.le_of_ble_eq_true rfl)) dL_law_373 ⟨by show (100 + 1177 * T) + 2 ≤ 603072; omega, by show (20000 + 14000 * T) + 12 ≤ 7194729; omega⟩) hS (fun r373 g373 H locs p373 hM hS => ?_)
  refine W.widen (k := (100 + 1177 * T + 2)) (n := (20000 + 14000 * T + 12)) (by omega) (by omega) ?_
  obtain ⟨c9, v9, S9, X9, O9, ad9, e9, rfl, hc9, hv9, hR9, hO9, hk9⟩ := p373
  have y20 := hR9.1 20 0 0 _ t20
  refine lv_istore (lv' := [(6, .int (nI c9)), (0, .ref b), (1, .ref (ad 0 0 0)), (2, .ref (ad 20 0 0)), (3, .ref (ad 38 0 0)), (4, .ref (ad 39 0 0)), (5, .int (nI (6 * T)))]) hx hb dL_law_376 hl (by decide) rfl (fun ls hl => ?_)
  rw [← hk9.1, ← hk9.2.1, ← hk9.2.2.1, ← hk9.2.2.2] at hl
  refine lv_aload_n hx hb dL_law_378 rfl (lv_at hl 3 rfl) ?_
  refine lv_aload_n hx hb dL_law_379 rfl (lv_at hl 1 rfl) ?_
  refine lv_iload hx hb dL_law_380 (lv_at hl 6 rfl) ?_
  refine lv_iconst (v := 1) hx hb dL_law_382 (by decide) ?_
  refine lv_iadd hx hb dL_law_383 ?_
  rw [show (nI (6 * T)) + 1 = nI ((6 * T) + 1) from nI_add _ _]
  refine va_sld hx hb hX hbl hbA hS (vp_in_nI (by omega) (by omega)) dL_law_384 ?_
  rw [show (nI ((6 * T) + 1) : Int32).toNatClampNeg = (6 * T) + 1 from nI_clamp (by omega)]
  refine lv_aload_n hx hb dL_law_385 rfl (lv_at hl 1 rfl) ?_
  refine lv_iload hx hb dL_law_386 (lv_at hl 6 rfl) ?_
  refine lv_iconst (v := 2) hx hb dL_law_388 (by decide) ?_
  refine lv_iadd hx hb dL_law_389 ?_
  rw [show (nI (6 * T)) + 2 = nI ((6 * T) + 2) from nI_add _ _]
  refine va_sld hx hb hX hbl hbA hS (vp_in_nI (by omega) (by omega)) dL_law_390 ?_
  rw [show (nI ((6 * T) + 2) : Int32).toNatClampNeg = (6 * T) + 2 from nI_clamp (by omega)]
  refine mq_calli (va_runV (As := [.int (xs ((6 * T) + 1)), .int (xs ((6 * T) + 2))]) (rest := []) ⟨hx, hb, hml, hown, hts⟩ (c_X11_open l G A g373 ad9 S9 X9 S Y O9 T (xs (6 * T + 1)) (xs (6 * T + 2))) (cwV 2 hts gL_law_X11_open rfl rfl rfl (by decide +kernel) ⟨Nat.le_of_ble_eq_true rfl, Nat.le_of_ble_eq_true rfl⟩) (mq_preV hK hZ hS hA hM (q := (RX11, TX11, 4)) y20 rfl (⟨hR9, ⟨⟨X, hO⟩, hC⟩⟩) _) rfl rfl hl.1 rfl (lv_room (Nat.le_of_ble_eq_true rfl)) dL_law_391 ⟨by show (100 + 1177 * T + 2) + 0 ≤ 603072; omega, by show (20000 + 14000 * T + 12) + 0 ≤ 7194729; omega⟩) hS (fun r391 g391 H locs p391 hM hS => ?_)
  refine W.widen (k := (100 + 1177 * T + 2)) (n := (20000 + 14000 * T + 12)) (by omega) (by omega) ?_
  obtain ⟨c8, S8, Y8, ad8, e8, hR8, hC8, hk8⟩ := p391
  obtain ⟨rfl, e7⟩ := Prod.mk.inj (e9.symm.trans e8)
  obtain ⟨rfl, rfl⟩ := Prod.mk.inj e7
  have y20b := hR8.1 20 0 0 _ t20
  refine lv_istore (lv' := [(7, .int v9), (6, .int (nI c9)), (0, .ref b), (1, .ref (ad9 0 0 0)), (2, .ref (ad9 20 0 0)), (3, .ref (ad9 38 0 0)), (4, .ref (ad9 39 0 0)), (5, .int (nI (6 * T)))]) hx hb dL_law_394 hl (by decide) rfl (fun ls hl => ?_)
  rw [← hk8.1, ← hk8.2.1, ← hk8.2.2.1, ← hk8.2.2.2] at hl
  refine lv_aload_n hx hb dL_law_396 rfl (lv_at hl 4 rfl) ?_
  refine mq_calli (va_runV (As := []) (rest := []) ⟨hx, hb, hml, hown, hts⟩ (c_X11_thrown l G A g391 (ad8 20 0 0) (yT (yThr Y8 (nI c9))) (nI (aD S9)) (ad8 21 0 0) (ad8 23 0 0)) (cwV 0 hts gL_law_X11_thrown rfl rfl rfl (by decide +kernel) ⟨Nat.le_of_ble_eq_true rfl, Nat.le_of_ble_eq_true rfl⟩) (mq_preV hK hZ hS hA hM (q := (RX11, TX11, 4)) y20b rfl (y20b) _) rfl rfl hl.1 rfl (lv_room (Nat.le_of_ble_eq_true rfl)) dL_law_397 ⟨by show (100 + 1177 * T + 2) + 0 ≤ 603072; omega, by show (20000 + 14000 * T + 12) + 0 ≤ 7194729; omega⟩) hS (fun r397 g397 H locs p397 hM hS => ?_)
  refine W.widen (k := (100 + 1177 * T + 2)) (n := (20000 + 14000 * T + 12)) (by omega) (by omega) ?_
  obtain ⟨rfl, hr3⟩ := p397
  have hr3 : r397 = nI c9 := hr3
  subst hr3
  refine lv_iload hx hb dL_law_400 (lv_at hl 1 rfl) ?_
  refine lv_icmp_eq (tgt := 407) hx hb dL_law_402 (by decide) (fun c_402 => ?_) (fun c_402 => (by exact absurd rfl c_402))
  refine lv_iload hx hb dL_law_407 (lv_at hl 1 rfl) ?_
  refine lv_if_ne (tgt := 431) hx hb dL_law_409 (by decide) (fun c_409 => ?_) (fun c_409 => ?_)
  · replace c_409 : ¬ nI c9 = nI 0 := c_409
    rw [nI_eq (by omega) (by omega)] at c_409
    refine lv_goto (tgt := 1773) hx hb dL_law_431 (by decide) ?_
    exact W.widen (by omega) (by omega) (K _ _ _ _ _ _ (hR8) (hO9) (hC8) _ _ hM hS _ (lv_sub hl [2, 3, 4, 5, 6, 7] rfl))
  · replace c_409 : nI c9 = nI 0 := c_409
    rw [nI_eq (by omega) (by omega)] at c_409
    have y38 := hR8.1 38 0 0 _ t38
    refine lv_aload_n hx hb dL_law_412 rfl (lv_at hl 5 rfl) ?_
    refine lv_iconst (v := 0) hx hb dL_law_413 (by decide) ?_
    refine mq_lald hx hb hK hM y38 (vp_in_nI (n := 0) (by decide) (by decide)) dL_law_414 ?_
    rw [show (0 : Int32).toNatClampNeg = 0 from rfl]
    rw [show O9.1 0 = (if v9 = 0 then 0 else 1 : Int64) from hv9 c_409]
    refine lv_iload hx hb dL_law_415 (lv_at hl 0 rfl) ?_
    refine lv_if_eq (tgt := 424) hx hb dL_law_417 (by decide) (fun c_417 => ?_) (fun c_417 => ?_)
    · refine lv_lconst (v := 0) hx hb dL_law_424 (by decide) ?_
      refine W.lcmp hx hb dL_law_425 ?_
      refine lv_if_eq (tgt := 431) hx hb dL_law_426 (by decide) (fun c_426 => ?_) (fun c_426 => (by exact absurd ((lg_cmp_eq _ _).mpr (if_pos c_417)) c_426))
      refine lv_goto (tgt := 1773) hx hb dL_law_431 (by decide) ?_
      exact W.widen (by omega) (by omega) (K _ _ _ _ _ _ (hR8) (hO9) (hC8) _ _ hM hS _ (lv_sub hl [2, 3, 4, 5, 6, 7] rfl))
    · refine lv_lconst (v := 1) hx hb dL_law_420 (by decide) ?_
      refine lv_goto (tgt := 425) hx hb dL_law_421 (by decide) ?_
      refine W.lcmp hx hb dL_law_425 ?_
      refine lv_if_eq (tgt := 431) hx hb dL_law_426 (by decide) (fun c_426 => ?_) (fun c_426 => (by exact absurd ((lg_cmp_eq _ _).mpr (if_neg c_417)) c_426))
      refine lv_goto (tgt := 1773) hx hb dL_law_431 (by decide) ?_
      exact W.widen (by omega) (by omega) (K _ _ _ _ _ _ (hR8) (hO9) (hC8) _ _ hM hS _ (lv_sub hl [2, 3, 4, 5, 6, 7] rfl))

set_option maxHeartbeats 4000000 in
set_option maxRecDepth 100000 in
theorem lw_case4 (l : Launch) (hfl : l.stackTraces = false) {p : Program} {e : Env} {s : State} {m : MethodId} {below : List Frame} {meth : Method} {c : Code} {b L : Nat} {xs : Nat → Int32} {G : mq_G} {A : Nat → Prop} {Q : State → Prop} (hC0 : lw_C p s m meth c b L xs G A) {f : mq_F} {ad : AD} {S : AT} {X : CX} {Y : MX} {O : OX} {T : Nat} (hR : WR G f ad S X S Y O) (hO : cOK S X T) (hC : mCp S Y) (hT5 : T < 512) (hTL : 6 * T + 6 ≤ L) (K : lw_K p l e s m below meth c b G A Q T) {H : Heap} {locs : List Loc} (hM : mq_W G.1 A f H) (hS : va_S A s.heap H locs) {ls : Array Slot} (hl : lv_has ls 9 [(0, .ref b), (1, .ref (ad 0 0 0)), (2, .ref (ad 20 0 0)), (3, .ref (ad 38 0 0)), (4, .ref (ad 39 0 0)), (5, .int (nI (6 * T)))]) : W p l e room_1 s m #[Value.ref b] below meth c H locs (100 + 1177 * T) (20000 + 14000 * T) Q (F0 m 434 ls []) := by
  obtain ⟨hx, hb, hml, hown, hts, hK, hZ, hA, hN, hX, hbl, hbA, hL⟩ := hC0
  have y0 := hR.1 _ _ _ _ t0
  refine lv_aload_n hx hb dL_law_434 rfl (lv_at hl 1 rfl) ?_
  refine lv_aload_n hx hb dL_law_435 rfl (lv_at hl 0 rfl) ?_
  refine lv_iload hx hb dL_law_436 (lv_at hl 5 rfl) ?_
  refine lv_iconst (v := 1) hx hb dL_law_438 (by decide) ?_
  refine lv_iadd hx hb dL_law_439 ?_
  rw [show (nI (6 * T)) + 1 = nI ((6 * T) + 1) from nI_add _ _]
  refine va_sld hx hb hX hbl hbA hS (vp_in_nI (by omega) (by omega)) dL_law_440 ?_
  rw [show (nI ((6 * T) + 1) : Int32).toNatClampNeg = (6 * T) + 1 from nI_clamp (by omega)]
  refine lv_aload_n hx hb dL_law_441 rfl (lv_at hl 0 rfl) ?_
  refine lv_iload hx hb dL_law_442 (lv_at hl 5 rfl) ?_
  refine lv_iconst (v := 2) hx hb dL_law_444 (by decide) ?_
  refine lv_iadd hx hb dL_law_445 ?_
  rw [show (nI (6 * T)) + 2 = nI ((6 * T) + 2) from nI_add _ _]
  refine va_sld hx hb hX hbl hbA hS (vp_in_nI (by omega) (by omega)) dL_law_446 ?_
  rw [show (nI ((6 * T) + 2) : Int32).toNatClampNeg = (6 * T) + 2 from nI_clamp (by omega)]
  refine lv_aload_n hx hb dL_law_447 rfl (lv_at hl 3 rfl) ?_
  refine mq_calli (vx_runSW (As := [.ref (ad 0 0 0), .int (xs ((6 * T) + 1)), .int (xs ((6 * T) + 2)), .ref (ad 38 0 0)]) (rest := []) ⟨hx, hb, hml, hown, hts⟩ (c_L_isOpen l hfl G A f ad S X S Y O T (xs (6 * T + 1)) (xs (6 * T + 2))) (vx_cwSW 4 hts gL_law_L_isOpen rfl rfl rfl (by decide +kernel) ⟨Nat.le_of_ble_eq_true rfl, Nat.le_of_ble_eq_true rfl⟩) (lq_preS hK hZ hS hA hM hN (⟨hR, hO, hT5⟩) _) rfl rfl hl.1 rfl (lv_room (Nat.le_of_ble_eq_true rfl)) dL_law_448 ⟨by show (100 + 1177 * T) + 2 ≤ 603072; omega, by show (20000 + 14000 * T) + 12 ≤ 7194729; omega⟩) hS (fun r448 g448 H locs p448 hM hS => ?_)
  refine W.widen (k := (100 + 1177 * T + 2)) (n := (20000 + 14000 * T + 12)) (by omega) (by omega) ?_
  obtain ⟨c9, v9, O9, e9, rfl, hc9, hv9, hR9⟩ := p448
  have y20 := hR9.1 20 0 0 _ t20
  have hO9 := ok_mono hO hT5
  refine lv_istore (lv' := [(6, .int (nI c9)), (0, .ref b), (1, .ref (ad 0 0 0)), (2, .ref (ad 20 0 0)), (3, .ref (ad 38 0 0)), (4, .ref (ad 39 0 0)), (5, .int (nI (6 * T)))]) hx hb dL_law_451 hl (by decide) rfl (fun ls hl => ?_)
  refine lv_aload_n hx hb dL_law_453 rfl (lv_at hl 3 rfl) ?_
  refine lv_aload_n hx hb dL_law_454 rfl (lv_at hl 1 rfl) ?_
  refine lv_iload hx hb dL_law_455 (lv_at hl 6 rfl) ?_
  refine lv_iconst (v := 1) hx hb dL_law_457 (by decide) ?_
  refine lv_iadd hx hb dL_law_458 ?_
  rw [show (nI (6 * T)) + 1 = nI ((6 * T) + 1) from nI_add _ _]
  refine va_sld hx hb hX hbl hbA hS (vp_in_nI (by omega) (by omega)) dL_law_459 ?_
  rw [show (nI ((6 * T) + 1) : Int32).toNatClampNeg = (6 * T) + 1 from nI_clamp (by omega)]
  refine lv_aload_n hx hb dL_law_460 rfl (lv_at hl 1 rfl) ?_
  refine lv_iload hx hb dL_law_461 (lv_at hl 6 rfl) ?_
  refine lv_iconst (v := 2) hx hb dL_law_463 (by decide) ?_
  refine lv_iadd hx hb dL_law_464 ?_
  rw [show (nI (6 * T)) + 2 = nI ((6 * T) + 2) from nI_add _ _]
  refine va_sld hx hb hX hbl hbA hS (vp_in_nI (by omega) (by omega)) dL_law_465 ?_
  rw [show (nI ((6 * T) + 2) : Int32).toNatClampNeg = (6 * T) + 2 from nI_clamp (by omega)]
  refine mq_calli (va_runV (As := [.int (xs ((6 * T) + 1)), .int (xs ((6 * T) + 2))]) (rest := []) ⟨hx, hb, hml, hown, hts⟩ (c_X11_isOpen l G A g448 ad S X S Y O9 T (xs (6 * T + 1)) (xs (6 * T + 2))) (cwV 2 hts gL_law_X11_isOpen rfl rfl rfl (by decide +kernel) ⟨Nat.le_of_ble_eq_true rfl, Nat.le_of_ble_eq_true rfl⟩) (mq_preV hK hZ hS hA hM (q := (RX11, TX11, 4)) y20 rfl (⟨hR9, ⟨⟨X, hO⟩, hC⟩⟩) _) rfl rfl hl.1 rfl (lv_room (Nat.le_of_ble_eq_true rfl)) dL_law_466 ⟨by show (100 + 1177 * T + 2) + 0 ≤ 603072; omega, by show (20000 + 14000 * T + 12) + 0 ≤ 7194729; omega⟩) hS (fun r466 g466 H locs p466 hM hS => ?_)
  refine W.widen (k := (100 + 1177 * T + 2)) (n := (20000 + 14000 * T + 12)) (by omega) (by omega) ?_
  obtain ⟨c8, e8, hR8⟩ := p466
  obtain ⟨rfl, rfl⟩ := Prod.mk.inj (e9.symm.trans e8)
  have y20b := hR8.1 20 0 0 _ t20
  refine lv_istore (lv' := [(7, .int v9), (6, .int (nI c9)), (0, .ref b), (1, .ref (ad 0 0 0)), (2, .ref (ad 20 0 0)), (3, .ref (ad 38 0 0)), (4, .ref (ad 39 0 0)), (5, .int (nI (6 * T)))]) hx hb dL_law_469 hl (by decide) rfl (fun ls hl => ?_)
  refine lv_aload_n hx hb dL_law_471 rfl (lv_at hl 4 rfl) ?_
  refine mq_calli (va_runV (As := []) (rest := []) ⟨hx, hb, hml, hown, hts⟩ (c_X11_thrown l G A g466 (ad 20 0 0) (yT (yThr Y (nI c9))) (nI (aD S)) (ad 21 0 0) (ad 23 0 0)) (cwV 0 hts gL_law_X11_thrown rfl rfl rfl (by decide +kernel) ⟨Nat.le_of_ble_eq_true rfl, Nat.le_of_ble_eq_true rfl⟩) (mq_preV hK hZ hS hA hM (q := (RX11, TX11, 4)) y20b rfl (y20b) _) rfl rfl hl.1 rfl (lv_room (Nat.le_of_ble_eq_true rfl)) dL_law_472 ⟨by show (100 + 1177 * T + 2) + 0 ≤ 603072; omega, by show (20000 + 14000 * T + 12) + 0 ≤ 7194729; omega⟩) hS (fun r472 g472 H locs p472 hM hS => ?_)
  refine W.widen (k := (100 + 1177 * T + 2)) (n := (20000 + 14000 * T + 12)) (by omega) (by omega) ?_
  obtain ⟨rfl, hr3⟩ := p472
  have hr3 : r472 = nI c9 := hr3
  subst hr3
  refine lv_iload hx hb dL_law_475 (lv_at hl 1 rfl) ?_
  refine lv_icmp_eq (tgt := 482) hx hb dL_law_477 (by decide) (fun c_477 => ?_) (fun c_477 => (by exact absurd rfl c_477))
  refine lv_iload hx hb dL_law_482 (lv_at hl 1 rfl) ?_
  refine lv_if_ne (tgt := 506) hx hb dL_law_484 (by decide) (fun c_484 => ?_) (fun c_484 => ?_)
  · replace c_484 : ¬ nI c9 = nI 0 := c_484
    rw [nI_eq (by omega) (by omega)] at c_484
    refine lv_goto (tgt := 1773) hx hb dL_law_506 (by decide) ?_
    exact W.widen (by omega) (by omega) (K _ _ _ _ _ _ (hR8) (hO9) (hC) _ _ hM hS _ (lv_sub hl [2, 3, 4, 5, 6, 7] rfl))
  · replace c_484 : nI c9 = nI 0 := c_484
    rw [nI_eq (by omega) (by omega)] at c_484
    have y38 := hR8.1 38 0 0 _ t38
    refine lv_aload_n hx hb dL_law_487 rfl (lv_at hl 5 rfl) ?_
    refine lv_iconst (v := 0) hx hb dL_law_488 (by decide) ?_
    refine mq_lald hx hb hK hM y38 (vp_in_nI (n := 0) (by decide) (by decide)) dL_law_489 ?_
    rw [show (0 : Int32).toNatClampNeg = 0 from rfl]
    rw [show O9.1 0 = (if v9 = 0 then 0 else 1 : Int64) from hv9 c_484]
    refine lv_iload hx hb dL_law_490 (lv_at hl 0 rfl) ?_
    refine lv_if_eq (tgt := 499) hx hb dL_law_492 (by decide) (fun c_492 => ?_) (fun c_492 => ?_)
    · refine lv_lconst (v := 0) hx hb dL_law_499 (by decide) ?_
      refine W.lcmp hx hb dL_law_500 ?_
      refine lv_if_eq (tgt := 506) hx hb dL_law_501 (by decide) (fun c_501 => ?_) (fun c_501 => (by exact absurd ((lg_cmp_eq _ _).mpr (if_pos c_492)) c_501))
      refine lv_goto (tgt := 1773) hx hb dL_law_506 (by decide) ?_
      exact W.widen (by omega) (by omega) (K _ _ _ _ _ _ (hR8) (hO9) (hC) _ _ hM hS _ (lv_sub hl [2, 3, 4, 5, 6, 7] rfl))
    · refine lv_lconst (v := 1) hx hb dL_law_495 (by decide) ?_
      refine lv_goto (tgt := 500) hx hb dL_law_496 (by decide) ?_
      refine W.lcmp hx hb dL_law_500 ?_
      refine lv_if_eq (tgt := 506) hx hb dL_law_501 (by decide) (fun c_501 => ?_) (fun c_501 => (by exact absurd ((lg_cmp_eq _ _).mpr (if_neg c_492)) c_501))
      refine lv_goto (tgt := 1773) hx hb dL_law_506 (by decide) ?_
      exact W.widen (by omega) (by omega) (K _ _ _ _ _ _ (hR8) (hO9) (hC) _ _ hM hS _ (lv_sub hl [2, 3, 4, 5, 6, 7] rfl))
