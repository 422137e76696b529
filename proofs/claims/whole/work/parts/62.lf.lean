/-! THE LAW, call by call -/
set_option maxHeartbeats 4000000 in
set_option maxRecDepth 100000 in
theorem lw_case15 (l : Launch) (hfl : l.stackTraces = false) {p : Program} {e : Env} {s : State} {m : MethodId} {below : List Frame} {meth : Method} {c : Code} {b L : Nat} {xs : Nat → Int32} {G : mq_G} {A : Nat → Prop} {Q : State → Prop} (hC0 : lw_C p s m meth c b L xs G A) {f : mq_F} {ad : AD} {S : AT} {X : CX} {Y : MX} {O : OX} {T : Nat} (hR : WR G f ad S X S Y O) (hO : cOK S X T) (hC : mCp S Y) (hT5 : T < 512) (hTL : 6 * T + 6 ≤ L) (K : lw_K p l e s m below meth c b G A Q T) {H : Heap} {locs : List Loc} (hM : mq_W G.1 A f H) (hS : va_S A s.heap H locs) {ls : Array Slot} (hl : lv_has ls 9 [(0, .ref b), (1, .ref (ad 0 0 0)), (2, .ref (ad 20 0 0)), (3, .ref (ad 38 0 0)), (4, .ref (ad 39 0 0)), (5, .int (nI (6 * T)))]) : W p l e room_1 s m #[Value.ref b] below meth c H locs (100 + 1177 * T) (20000 + 14000 * T) Q (F0 m 1181 ls []) := by
  obtain ⟨hx, hb, hml, hown, hts, hK, hZ, hA, hN, hX, hbl, hbA, hL⟩ := hC0
  have y0 := hR.1 _ _ _ _ t0
  refine lv_aload_n hx hb dL_law_1181 rfl (lv_at hl 1 rfl) ?_
  refine lv_aload_n hx hb dL_law_1182 rfl (lv_at hl 0 rfl) ?_
  refine lv_iload hx hb dL_law_1183 (lv_at hl 5 rfl) ?_
  refine lv_iconst (v := 1) hx hb dL_law_1185 (by decide) ?_
  refine lv_iadd hx hb dL_law_1186 ?_
  rw [show (nI (6 * T)) + 1 = nI ((6 * T) + 1) from nI_add _ _]
  refine va_sld hx hb hX hbl hbA hS (vp_in_nI (by omega) (by omega)) dL_law_1187 ?_
  rw [show (nI ((6 * T) + 1) : Int32).toNatClampNeg = (6 * T) + 1 from nI_clamp (by omega)]
  refine lv_aload_n hx hb dL_law_1188 rfl (lv_at hl 0 rfl) ?_
  refine lv_iload hx hb dL_law_1189 (lv_at hl 5 rfl) ?_
  refine lv_iconst (v := 2) hx hb dL_law_1191 (by decide) ?_
  refine lv_iadd hx hb dL_law_1192 ?_
  rw [show (nI (6 * T)) + 2 = nI ((6 * T) + 2) from nI_add _ _]
  refine va_sld hx hb hX hbl hbA hS (vp_in_nI (by omega) (by omega)) dL_law_1193 ?_
  rw [show (nI ((6 * T) + 2) : Int32).toNatClampNeg = (6 * T) + 2 from nI_clamp (by omega)]
  refine lv_aload_n hx hb dL_law_1194 rfl (lv_at hl 0 rfl) ?_
  refine lv_iload hx hb dL_law_1195 (lv_at hl 5 rfl) ?_
  refine lv_iconst (v := 3) hx hb dL_law_1197 (by decide) ?_
  refine lv_iadd hx hb dL_law_1198 ?_
  rw [show (nI (6 * T)) + 3 = nI ((6 * T) + 3) from nI_add _ _]
  refine va_sld hx hb hX hbl hbA hS (vp_in_nI (by omega) (by omega)) dL_law_1199 ?_
  rw [show (nI ((6 * T) + 3) : Int32).toNatClampNeg = (6 * T) + 3 from nI_clamp (by omega)]
  refine lv_aload_n hx hb dL_law_1200 rfl (lv_at hl 3 rfl) ?_
  refine mq_calli (vx_runSW (As := [.ref (ad 0 0 0), .int (xs ((6 * T) + 1)), .int (xs ((6 * T) + 2)), .int (xs ((6 * T) + 3)), .ref (ad 38 0 0)]) (rest := []) ⟨hx, hb, hml, hown, hts⟩ (c_L_make l hfl G A f ad S X S Y O T (xs (6 * T + 1)) (xs (6 * T + 2)) (xs (6 * T + 3))) (vx_cwSW 5 hts gL_law_L_make rfl rfl rfl (by decide +kernel) ⟨Nat.le_of_ble_eq_true rfl, Nat.le_of_ble_eq_true rfl⟩) (lq_preS hK hZ hS hA hM hN (⟨hR, hO, hT5⟩) _) rfl rfl hl.1 rfl (lv_room (Nat.le_of_ble_eq_true rfl)) dL_law_1201 ⟨by show (100 + 1177 * T) + 6 ≤ 603072; omega, by show (20000 + 14000 * T) + 27 ≤ 7194729; omega⟩) hS (fun r1201 g1201 H locs p1201 hM hS => ?_)
  refine W.widen (k := (100 + 1177 * T + 6)) (n := (20000 + 14000 * T + 27)) (by omega) (by omega) ?_
  obtain ⟨c9, v9, S9, X9, O9, ad9, e9, rfl, hc9, hv9, hR9, hO9, hk9⟩ := p1201
  have y20 := hR9.1 20 0 0 _ t20
  refine lv_istore (lv' := [(6, .int (nI c9)), (0, .ref b), (1, .ref (ad 0 0 0)), (2, .ref (ad 20 0 0)), (3, .ref (ad 38 0 0)), (4, .ref (ad 39 0 0)), (5, .int (nI (6 * T)))]) hx hb dL_law_1204 hl (by decide) rfl (fun ls hl => ?_)
  rw [← hk9.1, ← hk9.2.1, ← hk9.2.2.1, ← hk9.2.2.2] at hl
  refine lv_aload_n hx hb dL_law_1206 rfl (lv_at hl 3 rfl) ?_
  refine lv_aload_n hx hb dL_law_1207 rfl (lv_at hl 1 rfl) ?_
  refine lv_iload hx hb dL_law_1208 (lv_at hl 6 rfl) ?_
  refine lv_iconst (v := 1) hx hb dL_law_1210 (by decide) ?_
  refine lv_iadd hx hb dL_law_1211 ?_
  rw [show (nI (6 * T)) + 1 = nI ((6 * T) + 1) from nI_add _ _]
  refine va_sld hx hb hX hbl hbA hS (vp_in_nI (by omega) (by omega)) dL_law_1212 ?_
  rw [show (nI ((6 * T) + 1) : Int32).toNatClampNeg = (6 * T) + 1 from nI_clamp (by omega)]
  refine lv_aload_n hx hb dL_law_1213 rfl (lv_at hl 1 rfl) ?_
  refine lv_iload hx hb dL_law_1214 (lv_at hl 6 rfl) ?_
  refine lv_iconst (v := 2) hx hb dL_law_1216 (by decide) ?_
  refine lv_iadd hx hb dL_law_1217 ?_
  rw [show (nI (6 * T)) + 2 = nI ((6 * T) + 2) from nI_add _ _]
  refine va_sld hx hb hX hbl hbA hS (vp_in_nI (by omega) (by omega)) dL_law_1218 ?_
  rw [show (nI ((6 * T) + 2) : Int32).toNatClampNeg = (6 * T) + 2 from nI_clamp (by omega)]
  refine lv_aload_n hx hb dL_law_1219 rfl (lv_at hl 1 rfl) ?_
  refine lv_iload hx hb dL_law_1220 (lv_at hl 6 rfl) ?_
  refine lv_iconst (v := 3) hx hb dL_law_1222 (by decide) ?_
  refine lv_iadd hx hb dL_law_1223 ?_
  rw [show (nI (6 * T)) + 3 = nI ((6 * T) + 3) from nI_add _ _]
  refine va_sld hx hb hX hbl hbA hS (vp_in_nI (by omega) (by omega)) dL_law_1224 ?_
  rw [show (nI ((6 * T) + 3) : Int32).toNatClampNeg = (6 * T) + 3 from nI_clamp (by omega)]
  refine mq_calli (va_runV (As := [.int (xs ((6 * T) + 1)), .int (xs ((6 * T) + 2)), .int (xs ((6 * T) + 3))]) (rest := []) ⟨hx, hb, hml, hown, hts⟩ (c_X11_make l G A g1201 ad9 S9 X9 S Y O9 T (xs (6 * T + 1)) (xs (6 * T + 2)) (xs (6 * T + 3))) (cwV 3 hts gL_law_X11_make rfl rfl rfl (by decide +kernel) ⟨Nat.le_of_ble_eq_true rfl, Nat.le_of_ble_eq_true rfl⟩) (mq_preV hK hZ hS hA hM (q := (RX11, TX11, 4)) y20 rfl (⟨hR9, ⟨⟨X, hO⟩, hC⟩, hT5⟩) _) rfl rfl hl.1 rfl (lv_room (Nat.le_of_ble_eq_true rfl)) dL_law_1225 ⟨by show (100 + 1177 * T + 6) + 6 ≤ 603072; omega, by show (20000 + 14000 * T + 27) + 820 ≤ 7194729; omega⟩) hS (fun r1225 g1225 H locs p1225 hM hS => ?_)
  refine W.widen (k := (100 + 1177 * T + 12)) (n := (20000 + 14000 * T + 847)) (by omega) (by omega) ?_
  obtain ⟨c8, S8, Y8, ad8, e8, hR8, hC8, hk8⟩ := p1225
  obtain ⟨rfl, e7⟩ := Prod.mk.inj (e9.symm.trans e8)
  obtain ⟨rfl, rfl⟩ := Prod.mk.inj e7
  have y20b := hR8.1 20 0 0 _ t20
  refine lv_istore (lv' := [(7, .int v9), (6, .int (nI c9)), (0, .ref b), (1, .ref (ad9 0 0 0)), (2, .ref (ad9 20 0 0)), (3, .ref (ad9 38 0 0)), (4, .ref (ad9 39 0 0)), (5, .int (nI (6 * T)))]) hx hb dL_law_1228 hl (by decide) rfl (fun ls hl => ?_)
  rw [← hk8.1, ← hk8.2.1, ← hk8.2.2.1, ← hk8.2.2.2] at hl
  refine lv_aload_n hx hb dL_law_1230 rfl (lv_at hl 4 rfl) ?_
  refine mq_calli (va_runV (As := []) (rest := []) ⟨hx, hb, hml, hown, hts⟩ (c_X11_thrown l G A g1225 (ad8 20 0 0) (yT (yThr Y8 (nI c9))) (nI (aD S9)) (ad8 21 0 0) (ad8 23 0 0)) (cwV 0 hts gL_law_X11_thrown rfl rfl rfl (by decide +kernel) ⟨Nat.le_of_ble_eq_true rfl, Nat.le_of_ble_eq_true rfl⟩) (mq_preV hK hZ hS hA hM (q := (RX11, TX11, 4)) y20b rfl (y20b) _) rfl rfl hl.1 rfl (lv_room (Nat.le_of_ble_eq_true rfl)) dL_law_1231 ⟨by show (100 + 1177 * T + 12) + 0 ≤ 603072; omega, by show (20000 + 14000 * T + 847) + 0 ≤ 7194729; omega⟩) hS (fun r1231 g1231 H locs p1231 hM hS => ?_)
  refine W.widen (k := (100 + 1177 * T + 12)) (n := (20000 + 14000 * T + 847)) (by omega) (by omega) ?_
  obtain ⟨rfl, hr3⟩ := p1231
  have hr3 : r1231 = nI c9 := hr3
  subst hr3
  refine lv_iload hx hb dL_law_1234 (lv_at hl 1 rfl) ?_
  refine lv_icmp_eq (tgt := 1241) hx hb dL_law_1236 (by decide) (fun c_1236 => ?_) (fun c_1236 => (by exact absurd rfl c_1236))
  refine lv_iload hx hb dL_law_1241 (lv_at hl 1 rfl) ?_
  refine lv_if_ne (tgt := 1258) hx hb dL_law_1243 (by decide) (fun c_1243 => ?_) (fun c_1243 => ?_)
  · replace c_1243 : ¬ nI c9 = nI 0 := c_1243
    rw [nI_eq (by omega) (by omega)] at c_1243
    refine lv_goto (tgt := 1773) hx hb dL_law_1258 (by decide) ?_
    exact W.widen (by omega) (by omega) (K _ _ _ _ _ _ (hR8) (hO9) (hC8) _ _ hM hS _ (lv_sub hl [2, 3, 4, 5, 6, 7] rfl))
  · replace c_1243 : nI c9 = nI 0 := c_1243
    rw [nI_eq (by omega) (by omega)] at c_1243
    have y38 := hR8.1 38 0 0 _ t38
    refine lv_aload_n hx hb dL_law_1246 rfl (lv_at hl 5 rfl) ?_
    refine lv_iconst (v := 0) hx hb dL_law_1247 (by decide) ?_
    refine mq_lald hx hb hK hM y38 (vp_in_nI (n := 0) (by decide) (by decide)) dL_law_1248 ?_
    rw [show (0 : Int32).toNatClampNeg = 0 from rfl]
    rw [show O9.1 0 = v9.toInt64 from hv9 c_1243]
    refine lv_iload hx hb dL_law_1249 (lv_at hl 0 rfl) ?_
    refine lv_i2l hx hb dL_law_1251 rfl ?_
    refine W.lcmp hx hb dL_law_1252 ?_
    refine lv_if_eq (tgt := 1258) hx hb dL_law_1253 (by decide) (fun c_1253 => ?_) (fun c_1253 => (by exact absurd ((lg_cmp_eq _ _).mpr rfl) c_1253))
    refine lv_goto (tgt := 1773) hx hb dL_law_1258 (by decide) ?_
    exact W.widen (by omega) (by omega) (K _ _ _ _ _ _ (hR8) (hO9) (hC8) _ _ hM hS _ (lv_sub hl [2, 3, 4, 5, 6, 7] rfl))

set_option maxHeartbeats 4000000 in
set_option maxRecDepth 100000 in
theorem lw_case16 (l : Launch) (hfl : l.stackTraces = false) {p : Program} {e : Env} {s : State} {m : MethodId} {below : List Frame} {meth : Method} {c : Code} {b L : Nat} {xs : Nat → Int32} {G : mq_G} {A : Nat → Prop} {Q : State → Prop} (hC0 : lw_C p s m meth c b L xs G A) {f : mq_F} {ad : AD} {S : AT} {X : CX} {Y : MX} {O : OX} {T : Nat} (hR : WR G f ad S X S Y O) (hO : cOK S X T) (hC : mCp S Y) (hT5 : T < 512) (hTL : 6 * T + 6 ≤ L) (K : lw_K p l e s m below meth c b G A Q T) {H : Heap} {locs : List Loc} (hM : mq_W G.1 A f H) (hS : va_S A s.heap H locs) {ls : Array Slot} (hl : lv_has ls 9 [(0, .ref b), (1, .ref (ad 0 0 0)), (2, .ref (ad 20 0 0)), (3, .ref (ad 38 0 0)), (4, .ref (ad 39 0 0)), (5, .int (nI (6 * T)))]) : W p l e room_1 s m #[Value.ref b] below meth c H locs (100 + 1177 * T) (20000 + 14000 * T) Q (F0 m 1261 ls []) := by
  obtain ⟨hx, hb, hml, hown, hts, hK, hZ, hA, hN, hX, hbl, hbA, hL⟩ := hC0
  have y0 := hR.1 _ _ _ _ t0
  refine lv_aload_n hx hb dL_law_1261 rfl (lv_at hl 1 rfl) ?_
  refine lv_aload_n hx hb dL_law_1262 rfl (lv_at hl 0 rfl) ?_
  refine lv_iload hx hb dL_law_1263 (lv_at hl 5 rfl) ?_
  refine lv_iconst (v := 1) hx hb dL_law_1265 (by decide) ?_
  refine lv_iadd hx hb dL_law_1266 ?_
  rw [show (nI (6 * T)) + 1 = nI ((6 * T) + 1) from nI_add _ _]
  refine va_sld hx hb hX hbl hbA hS (vp_in_nI (by omega) (by omega)) dL_law_1267 ?_
  rw [show (nI ((6 * T) + 1) : Int32).toNatClampNeg = (6 * T) + 1 from nI_clamp (by omega)]
  refine lv_aload_n hx hb dL_law_1268 rfl (lv_at hl 0 rfl) ?_
  refine lv_iload hx hb dL_law_1269 (lv_at hl 5 rfl) ?_
  refine lv_iconst (v := 2) hx hb dL_law_1271 (by decide) ?_
  refine lv_iadd hx hb dL_law_1272 ?_
  rw [show (nI (6 * T)) + 2 = nI ((6 * T) + 2) from nI_add _ _]
  refine va_sld hx hb hX hbl hbA hS (vp_in_nI (by omega) (by omega)) dL_law_1273 ?_
  rw [show (nI ((6 * T) + 2) : Int32).toNatClampNeg = (6 * T) + 2 from nI_clamp (by omega)]
  refine lv_i2c hx hb dL_law_1274 rfl ?_
  refine lv_aload_n hx hb dL_law_1275 rfl (lv_at hl 3 rfl) ?_
  refine mq_calli (vx_runSW (As := [.ref (ad 0 0 0), .int (xs ((6 * T) + 1)), .int (((xs ((6 * T) + 2)).toUInt32 % 65536).toInt32), .ref (ad 38 0 0)]) (rest := []) ⟨hx, hb, hml, hown, hts⟩ (c_L_part l hfl G A f ad S X S Y O T (xs (6 * T + 1)) (((xs (6 * T + 2)).toUInt32 % 65536).toInt32)) (vx_cwSW 4 hts gL_law_L_part rfl rfl rfl (by decide +kernel) ⟨Nat.le_of_ble_eq_true rfl, Nat.le_of_ble_eq_true rfl⟩) (lq_preS hK hZ hS hA hM hN (⟨hR, hO, hT5⟩) _) rfl rfl hl.1 rfl (lv_room (Nat.le_of_ble_eq_true rfl)) dL_law_1276 ⟨by show (100 + 1177 * T) + 3 ≤ 603072; omega, by show (20000 + 14000 * T) + 18 ≤ 7194729; omega⟩) hS (fun r1276 g1276 H locs p1276 hM hS => ?_)
  refine W.widen (k := (100 + 1177 * T + 3)) (n := (20000 + 14000 * T + 18)) (by omega) (by omega) ?_
  obtain ⟨c9, v9, O9, e9, rfl, hc9, hv9, hR9⟩ := p1276
  have y20 := hR9.1 20 0 0 _ t20
  have hO9 := ok_mono hO hT5
  refine lv_istore (lv' := [(6, .int (nI c9)), (0, .ref b), (1, .ref (ad 0 0 0)), (2, .ref (ad 20 0 0)), (3, .ref (ad 38 0 0)), (4, .ref (ad 39 0 0)), (5, .int (nI (6 * T)))]) hx hb dL_law_1279 hl (by decide) rfl (fun ls hl => ?_)
  refine lv_aload_n hx hb dL_law_1281 rfl (lv_at hl 3 rfl) ?_
  refine lv_aload_n hx hb dL_law_1282 rfl (lv_at hl 1 rfl) ?_
  refine lv_iload hx hb dL_law_1283 (lv_at hl 6 rfl) ?_
  refine lv_iconst (v := 1) hx hb dL_law_1285 (by decide) ?_
  refine lv_iadd hx hb dL_law_1286 ?_
  rw [show (nI (6 * T)) + 1 = nI ((6 * T) + 1) from nI_add _ _]
  refine va_sld hx hb hX hbl hbA hS (vp_in_nI (by omega) (by omega)) dL_law_1287 ?_
  rw [show (nI ((6 * T) + 1) : Int32).toNatClampNeg = (6 * T) + 1 from nI_clamp (by omega)]
  refine lv_aload_n hx hb dL_law_1288 rfl (lv_at hl 1 rfl) ?_
  refine lv_iload hx hb dL_law_1289 (lv_at hl 6 rfl) ?_
  refine lv_iconst (v := 2) hx hb dL_law_1291 (by decide) ?_
  refine lv_iadd hx hb dL_law_1292 ?_
  rw [show (nI (6 * T)) + 2 = nI ((6 * T) + 2) from nI_add _ _]
  refine va_sld hx hb hX hbl hbA hS (vp_in_nI (by omega) (by omega)) dL_law_1293 ?_
  rw [show (nI ((6 * T) + 2) : Int32).toNatClampNeg = (6 * T) + 2 from nI_clamp (by omega)]
  refine lv_i2c hx hb dL_law_1294 rfl ?_
  refine mq_calli (va_runV (As := [.int (xs ((6 * T) + 1)), .int (((xs ((6 * T) + 2)).toUInt32 % 65536).toInt32)]) (rest := []) ⟨hx, hb, hml, hown, hts⟩ (c_X11_part l G A g1276 ad S X S Y O9 T (xs (6 * T + 1)) (((xs (6 * T + 2)).toUInt32 % 65536).toInt32)) (cwV 2 hts gL_law_X11_part rfl rfl rfl (by decide +kernel) ⟨Nat.le_of_ble_eq_true rfl, Nat.le_of_ble_eq_true rfl⟩) (mq_preV hK hZ hS hA hM (q := (RX11, TX11, 4)) y20 rfl (⟨hR9, ⟨⟨X, hO⟩, hC⟩⟩) _) rfl rfl hl.1 rfl (lv_room (Nat.le_of_ble_eq_true rfl)) dL_law_1295 ⟨by show (100 + 1177 * T + 3) + 0 ≤ 603072; omega, by show (20000 + 14000 * T + 18) + 0 ≤ 7194729; omega⟩) hS (fun r1295 g1295 H locs p1295 hM hS => ?_)
  refine W.widen (k := (100 + 1177 * T + 3)) (n := (20000 + 14000 * T + 18)) (by omega) (by omega) ?_
  obtain ⟨c8, e8, hR8⟩ := p1295
  obtain ⟨rfl, rfl⟩ := Prod.mk.inj (e9.symm.trans e8)
  have y20b := hR8.1 20 0 0 _ t20
  refine lv_istore (lv' := [(7, .int v9), (6, .int (nI c9)), (0, .ref b), (1, .ref (ad 0 0 0)), (2, .ref (ad 20 0 0)), (3, .ref (ad 38 0 0)), (4, .ref (ad 39 0 0)), (5, .int (nI (6 * T)))]) hx hb dL_law_1298 hl (by decide) rfl (fun ls hl => ?_)
  refine lv_aload_n hx hb dL_law_1300 rfl (lv_at hl 4 rfl) ?_
  refine mq_calli (va_runV (As := []) (rest := []) ⟨hx, hb, hml, hown, hts⟩ (c_X11_thrown l G A g1295 (ad 20 0 0) (yT (yThr Y (nI c9))) (nI (aD S)) (ad 21 0 0) (ad 23 0 0)) (cwV 0 hts gL_law_X11_thrown rfl rfl rfl (by decide +kernel) ⟨Nat.le_of_ble_eq_true rfl, Nat.le_of_ble_eq_true rfl⟩) (mq_preV hK hZ hS hA hM (q := (RX11, TX11, 4)) y20b rfl (y20b) _) rfl rfl hl.1 rfl (lv_room (Nat.le_of_ble_eq_true rfl)) dL_law_1301 ⟨by show (100 + 1177 * T + 3) + 0 ≤ 603072; omega, by show (20000 + 14000 * T + 18) + 0 ≤ 7194729; omega⟩) hS (fun r1301 g1301 H locs p1301 hM hS => ?_)
  refine W.widen (k := (100 + 1177 * T + 3)) (n := (20000 + 14000 * T + 18)) (by omega) (by omega) ?_
  obtain ⟨rfl, hr3⟩ := p1301
  have hr3 : r1301 = nI c9 := hr3
  subst hr3
  refine lv_iload hx hb dL_law_1304 (lv_at hl 1 rfl) ?_
  refine lv_icmp_eq (tgt := 1311) hx hb dL_law_1306 (by decide) (fun c_1306 => ?_) (fun c_1306 => (by exact absurd rfl c_1306))
  refine lv_iload hx hb dL_law_1311 (lv_at hl 1 rfl) ?_
  refine lv_if_ne (tgt := 1328) hx hb dL_law_1313 (by decide) (fun c_1313 => ?_) (fun c_1313 => ?_)
  · replace c_1313 : ¬ nI c9 = nI 0 := c_1313
    rw [nI_eq (by omega) (by omega)] at c_1313
    refine lv_goto (tgt := 1773) hx hb dL_law_1328 (by decide) ?_
    exact W.widen (by omega) (by omega) (K _ _ _ _ _ _ (hR8) (hO9) (hC) _ _ hM hS _ (lv_sub hl [2, 3, 4, 5, 6, 7] rfl))
  · replace c_1313 : nI c9 = nI 0 := c_1313
    rw [nI_eq (by omega) (by omega)] at c_1313
    have y38 := hR8.1 38 0 0 _ t38
    refine lv_aload_n hx hb dL_law_1316 rfl (lv_at hl 5 rfl) ?_
    refine lv_iconst (v := 0) hx hb dL_law_1317 (by decide) ?_
    refine mq_lald hx hb hK hM y38 (vp_in_nI (n := 0) (by decide) (by decide)) dL_law_1318 ?_
    rw [show (0 : Int32).toNatClampNeg = 0 from rfl]
    rw [show O9.1 0 = v9.toInt64 from hv9 c_1313]
    refine lv_iload hx hb dL_law_1319 (lv_at hl 0 rfl) ?_
    refine lv_i2l hx hb dL_law_1321 rfl ?_
    refine W.lcmp hx hb dL_law_1322 ?_
    refine lv_if_eq (tgt := 1328) hx hb dL_law_1323 (by decide) (fun c_1323 => ?_) (fun c_1323 => (by exact absurd ((lg_cmp_eq _ _).mpr rfl) c_1323))
    refine lv_goto (tgt := 1773) hx hb dL_law_1328 (by decide) ?_
    exact W.widen (by omega) (by omega) (K _ _ _ _ _ _ (hR8) (hO9) (hC) _ _ hM hS _ (lv_sub hl [2, 3, 4, 5, 6, 7] rfl))

set_option maxHeartbeats 4000000 in
set_option maxRecDepth 100000 in
theorem lw_case17 (l : Launch) (hfl : l.stackTraces = false) {p : Program} {e : Env} {s : State} {m : MethodId} {below : List Frame} {meth : Method} {c : Code} {b L : Nat} {xs : Nat → Int32} {G : mq_G} {A : Nat → Prop} {Q : State → Prop} (hC0 : lw_C p s m meth c b L xs G A) {f : mq_F} {ad : AD} {S : AT} {X : CX} {Y : MX} {O : OX} {T : Nat} (hR : WR G f ad S X S Y O) (hO : cOK S X T) (hC : mCp S Y) (hT5 : T < 512) (hTL : 6 * T + 6 ≤ L) (K : lw_K p l e s m below meth c b G A Q T) {H : Heap} {locs : List Loc} (hM : mq_W G.1 A f H) (hS : va_S A s.heap H locs) {ls : Array Slot} (hl : lv_has ls 9 [(0, .ref b), (1, .ref (ad 0 0 0)), (2, .ref (ad 20 0 0)), (3, .ref (ad 38 0 0)), (4, .ref (ad 39 0 0)), (5, .int (nI (6 * T)))]) : W p l e room_1 s m #[Value.ref b] below meth c H locs (100 + 1177 * T) (20000 + 14000 * T) Q (F0 m 1331 ls []) := by
  obtain ⟨hx, hb, hml, hown, hts, hK, hZ, hA, hN, hX, hbl, hbA, hL⟩ := hC0
  have y0 := hR.1 _ _ _ _ t0
  refine lv_aload_n hx hb dL_law_1331 rfl (lv_at hl 1 rfl) ?_
  refine lv_aload_n hx hb dL_law_1332 rfl (lv_at hl 0 rfl) ?_
  refine lv_iload hx hb dL_law_1333 (lv_at hl 5 rfl) ?_
  refine lv_iconst (v := 1) hx hb dL_law_1335 (by decide) ?_
  refine lv_iadd hx hb dL_law_1336 ?_
  rw [show (nI (6 * T)) + 1 = nI ((6 * T) + 1) from nI_add _ _]
  refine va_sld hx hb hX hbl hbA hS (vp_in_nI (by omega) (by omega)) dL_law_1337 ?_
  rw [show (nI ((6 * T) + 1) : Int32).toNatClampNeg = (6 * T) + 1 from nI_clamp (by omega)]
  refine lv_aload_n hx hb dL_law_1338 rfl (lv_at hl 0 rfl) ?_
  refine lv_iload hx hb dL_law_1339 (lv_at hl 5 rfl) ?_
  refine lv_iconst (v := 2) hx hb dL_law_1341 (by decide) ?_
  refine lv_iadd hx hb dL_law_1342 ?_
  rw [show (nI (6 * T)) + 2 = nI ((6 * T) + 2) from nI_add _ _]
  refine va_sld hx hb hX hbl hbA hS (vp_in_nI (by omega) (by omega)) dL_law_1343 ?_
  rw [show (nI ((6 * T) + 2) : Int32).toNatClampNeg = (6 * T) + 2 from nI_clamp (by omega)]
  refine lv_aload_n hx hb dL_law_1344 rfl (lv_at hl 0 rfl) ?_
  refine lv_iload hx hb dL_law_1345 (lv_at hl 5 rfl) ?_
  refine lv_iconst (v := 3) hx hb dL_law_1347 (by decide) ?_
  refine lv_iadd hx hb dL_law_1348 ?_
  rw [show (nI (6 * T)) + 3 = nI ((6 * T) + 3) from nI_add _ _]
  refine va_sld hx hb hX hbl hbA hS (vp_in_nI (by omega) (by omega)) dL_law_1349 ?_
  rw [show (nI ((6 * T) + 3) : Int32).toNatClampNeg = (6 * T) + 3 from nI_clamp (by omega)]
  refine lv_aload_n hx hb dL_law_1350 rfl (lv_at hl 0 rfl) ?_
  refine lv_iload hx hb dL_law_1351 (lv_at hl 5 rfl) ?_
  refine lv_iconst (v := 4) hx hb dL_law_1353 (by decide) ?_
  refine lv_iadd hx hb dL_law_1354 ?_
  rw [show (nI (6 * T)) + 4 = nI ((6 * T) + 4) from nI_add _ _]
  refine va_sld hx hb hX hbl hbA hS (vp_in_nI (by omega) (by omega)) dL_law_1355 ?_
  rw [show (nI ((6 * T) + 4) : Int32).toNatClampNeg = (6 * T) + 4 from nI_clamp (by omega)]
  refine lv_aload_n hx hb dL_law_1356 rfl (lv_at hl 0 rfl) ?_
  refine lv_iload hx hb dL_law_1357 (lv_at hl 5 rfl) ?_
  refine lv_iconst (v := 5) hx hb dL_law_1359 (by decide) ?_
  refine lv_iadd hx hb dL_law_1360 ?_
  rw [show (nI (6 * T)) + 5 = nI ((6 * T) + 5) from nI_add _ _]
  refine va_sld hx hb hX hbl hbA hS (vp_in_nI (by omega) (by omega)) dL_law_1361 ?_
  rw [show (nI ((6 * T) + 5) : Int32).toNatClampNeg = (6 * T) + 5 from nI_clamp (by omega)]
  refine lv_aload_n hx hb dL_law_1362 rfl (lv_at hl 3 rfl) ?_
  refine mq_calli (vx_runSW (As := [.ref (ad 0 0 0), .int (xs ((6 * T) + 1)), .int (xs ((6 * T) + 2)), .int (xs ((6 * T) + 3)), .int (xs ((6 * T) + 4)), .int (xs ((6 * T) + 5)), .ref (ad 38 0 0)]) (rest := []) ⟨hx, hb, hml, hown, hts⟩ (c_L_step l hfl G A f ad S X S Y O T (xs (6 * T + 1)) (xs (6 * T + 2)) (xs (6 * T + 3)) (xs (6 * T + 4)) (xs (6 * T + 5))) (vx_cwSW 7 hts gL_law_L_step rfl rfl rfl (by decide +kernel) ⟨Nat.le_of_ble_eq_true rfl, Nat.le_of_ble_eq_true rfl⟩) (lq_preS hK hZ hS hA hM hN (⟨hR, hO, hT5⟩) _) rfl rfl hl.1 rfl (lv_room (Nat.le_of_ble_eq_true rfl)) dL_law_1363 ⟨by show (100 + 1177 * T) + 9 ≤ 603072; omega, by show (20000 + 14000 * T) + 42 ≤ 7194729; omega⟩) hS (fun r1363 g1363 H locs p1363 hM hS => ?_)
  refine W.widen (k := (100 + 1177 * T + 9)) (n := (20000 + 14000 * T + 42)) (by omega) (by omega) ?_
  obtain ⟨c9, v9, S9, X9, O9, ad9, e9, rfl, hc9, hv9, hR9, hO9, hk9⟩ := p1363
  have y20 := hR9.1 20 0 0 _ t20
  refine lv_istore (lv' := [(6, .int (nI c9)), (0, .ref b), (1, .ref (ad 0 0 0)), (2, .ref (ad 20 0 0)), (3, .ref (ad 38 0 0)), (4, .ref (ad 39 0 0)), (5, .int (nI (6 * T)))]) hx hb dL_law_1366 hl (by decide) rfl (fun ls hl => ?_)
  rw [← hk9.1, ← hk9.2.1, ← hk9.2.2.1, ← hk9.2.2.2] at hl
  refine lv_aload_n hx hb dL_law_1368 rfl (lv_at hl 3 rfl) ?_
  refine lv_aload_n hx hb dL_law_1369 rfl (lv_at hl 1 rfl) ?_
  refine lv_iload hx hb dL_law_1370 (lv_at hl 6 rfl) ?_
  refine lv_iconst (v := 1) hx hb dL_law_1372 (by decide) ?_
  refine lv_iadd hx hb dL_law_1373 ?_
  rw [show (nI (6 * T)) + 1 = nI ((6 * T) + 1) from nI_add _ _]
  refine va_sld hx hb hX hbl hbA hS (vp_in_nI (by omega) (by omega)) dL_law_1374 ?_
  rw [show (nI ((6 * T) + 1) : Int32).toNatClampNeg = (6 * T) + 1 from nI_clamp (by omega)]
  refine lv_aload_n hx hb dL_law_1375 rfl (lv_at hl 1 rfl) ?_
  refine lv_iload hx hb dL_law_1376 (lv_at hl 6 rfl) ?_
  refine lv_iconst (v := 2) hx hb dL_law_1378 (by decide) ?_
  refine lv_iadd hx hb dL_law_1379 ?_
  rw [show (nI (6 * T)) + 2 = nI ((6 * T) + 2) from nI_add _ _]
  refine va_sld hx hb hX hbl hbA hS (vp_in_nI (by omega) (by omega)) dL_law_1380 ?_
  rw [show (nI ((6 * T) + 2) : Int32).toNatClampNeg = (6 * T) + 2 from nI_clamp (by omega)]
  refine lv_aload_n hx hb dL_law_1381 rfl (lv_at hl 1 rfl) ?_
  refine lv_iload hx hb dL_law_1382 (lv_at hl 6 rfl) ?_
  refine lv_iconst (v := 3) hx hb dL_law_1384 (by decide) ?_
  refine lv_iadd hx hb dL_law_1385 ?_
  rw [show (nI (6 * T)) + 3 = nI ((6 * T) + 3) from nI_add _ _]
  refine va_sld hx hb hX hbl hbA hS (vp_in_nI (by omega) (by omega)) dL_law_1386 ?_
  rw [show (nI ((6 * T) + 3) : Int32).toNatClampNeg = (6 * T) + 3 from nI_clamp (by omega)]
  refine lv_aload_n hx hb dL_law_1387 rfl (lv_at hl 1 rfl) ?_
  refine lv_iload hx hb dL_law_1388 (lv_at hl 6 rfl) ?_
  refine lv_iconst (v := 4) hx hb dL_law_1390 (by decide) ?_
  refine lv_iadd hx hb dL_law_1391 ?_
  rw [show (nI (6 * T)) + 4 = nI ((6 * T) + 4) from nI_add _ _]
  refine va_sld hx hb hX hbl hbA hS (vp_in_nI (by omega) (by omega)) dL_law_1392 ?_
  rw [show (nI ((6 * T) + 4) : Int32).toNatClampNeg = (6 * T) + 4 from nI_clamp (by omega)]
  refine lv_aload_n hx hb dL_law_1393 rfl (lv_at hl 1 rfl) ?_
  refine lv_iload hx hb dL_law_1394 (lv_at hl 6 rfl) ?_
  refine lv_iconst (v := 5) hx hb dL_law_1396 (by decide) ?_
  refine lv_iadd hx hb dL_law_1397 ?_
  rw [show (nI (6 * T)) + 5 = nI ((6 * T) + 5) from nI_add _ _]
  refine va_sld hx hb hX hbl hbA hS (vp_in_nI (by omega) (by omega)) dL_law_1398 ?_
  rw [show (nI ((6 * T) + 5) : Int32).toNatClampNeg = (6 * T) + 5 from nI_clamp (by omega)]
  refine mq_calli (va_runV (As := [.int (xs ((6 * T) + 1)), .int (xs ((6 * T) + 2)), .int (xs ((6 * T) + 3)), .int (xs ((6 * T) + 4)), .int (xs ((6 * T) + 5))]) (rest := []) ⟨hx, hb, hml, hown, hts⟩ (c_X11_step l G A g1363 ad9 S9 X9 S Y O9 T (xs (6 * T + 1)) (xs (6 * T + 2)) (xs (6 * T + 3)) (xs (6 * T + 4)) (xs (6 * T + 5))) (cwV 5 hts gL_law_X11_step rfl rfl rfl (by decide +kernel) ⟨Nat.le_of_ble_eq_true rfl, Nat.le_of_ble_eq_true rfl⟩) (mq_preV hK hZ hS hA hM (q := (RX11, TX11, 4)) y20 rfl (⟨hR9, ⟨⟨X, hO⟩, hC⟩, hT5⟩) _) rfl rfl hl.1 rfl (lv_room (Nat.le_of_ble_eq_true rfl)) dL_law_1399 ⟨by show (100 + 1177 * T + 9) + 2 ≤ 603072; omega, by show (20000 + 14000 * T + 42) + 804 ≤ 7194729; omega⟩) hS (fun r1399 g1399 H locs p1399 hM hS => ?_)
  refine W.widen (k := (100 + 1177 * T + 11)) (n := (20000 + 14000 * T + 846)) (by omega) (by omega) ?_
  obtain ⟨c8, S8, Y8, ad8, e8, hR8, hC8, hk8⟩ := p1399
  obtain ⟨rfl, e7⟩ := Prod.mk.inj (e9.symm.trans e8)
  obtain ⟨rfl, rfl⟩ := Prod.mk.inj e7
  have y20b := hR8.1 20 0 0 _ t20
  refine lv_istore (lv' := [(7, .int v9), (6, .int (nI c9)), (0, .ref b), (1, .ref (ad9 0 0 0)), (2, .ref (ad9 20 0 0)), (3, .ref (ad9 38 0 0)), (4, .ref (ad9 39 0 0)), (5, .int (nI (6 * T)))]) hx hb dL_law_1402 hl (by decide) rfl (fun ls hl => ?_)
  rw [← hk8.1, ← hk8.2.1, ← hk8.2.2.1, ← hk8.2.2.2] at hl
  refine lv_aload_n hx hb dL_law_1404 rfl (lv_at hl 4 rfl) ?_
  refine mq_calli (va_runV (As := []) (rest := []) ⟨hx, hb, hml, hown, hts⟩ (c_X11_thrown l G A g1399 (ad8 20 0 0) (yT (yThr Y8 (nI c9))) (nI (aD S9)) (ad8 21 0 0) (ad8 23 0 0)) (cwV 0 hts gL_law_X11_thrown rfl rfl rfl (by decide +kernel) ⟨Nat.le_of_ble_eq_true rfl, Nat.le_of_ble_eq_true rfl⟩) (mq_preV hK hZ hS hA hM (q := (RX11, TX11, 4)) y20b rfl (y20b) _) rfl rfl hl.1 rfl (lv_room (Nat.le_of_ble_eq_true rfl)) dL_law_1405 ⟨by show (100 + 1177 * T + 11) + 0 ≤ 603072; omega, by show (20000 + 14000 * T + 846) + 0 ≤ 7194729; omega⟩) hS (fun r1405 g1405 H locs p1405 hM hS => ?_)
  refine W.widen (k := (100 + 1177 * T + 11)) (n := (20000 + 14000 * T + 846)) (by omega) (by omega) ?_
  obtain ⟨rfl, hr3⟩ := p1405
  have hr3 : r1405 = nI c9 := hr3
  subst hr3
  refine lv_iload hx hb dL_law_1408 (lv_at hl 1 rfl) ?_
  refine lv_icmp_eq (tgt := 1415) hx hb dL_law_1410 (by decide) (fun c_1410 => ?_) (fun c_1410 => (by exact absurd rfl c_1410))
  refine lv_iload hx hb dL_law_1415 (lv_at hl 1 rfl) ?_
  refine lv_if_ne (tgt := 1432) hx hb dL_law_1417 (by decide) (fun c_1417 => ?_) (fun c_1417 => ?_)
  · replace c_1417 : ¬ nI c9 = nI 0 := c_1417
    rw [nI_eq (by omega) (by omega)] at c_1417
    refine lv_goto (tgt := 1773) hx hb dL_law_1432 (by decide) ?_
    exact W.widen (by omega) (by omega) (K _ _ _ _ _ _ (hR8) (hO9) (hC8) _ _ hM hS _ (lv_sub hl [2, 3, 4, 5, 6, 7] rfl))
  · replace c_1417 : nI c9 = nI 0 := c_1417
    rw [nI_eq (by omega) (by omega)] at c_1417
    have y38 := hR8.1 38 0 0 _ t38
    refine lv_aload_n hx hb dL_law_1420 rfl (lv_at hl 5 rfl) ?_
    refine lv_iconst (v := 0) hx hb dL_law_1421 (by decide) ?_
    refine mq_lald hx hb hK hM y38 (vp_in_nI (n := 0) (by decide) (by decide)) dL_law_1422 ?_
    rw [show (0 : Int32).toNatClampNeg = 0 from rfl]
    rw [show O9.1 0 = v9.toInt64 from hv9 c_1417]
    refine lv_iload hx hb dL_law_1423 (lv_at hl 0 rfl) ?_
    refine lv_i2l hx hb dL_law_1425 rfl ?_
    refine W.lcmp hx hb dL_law_1426 ?_
    refine lv_if_eq (tgt := 1432) hx hb dL_law_1427 (by decide) (fun c_1427 => ?_) (fun c_1427 => (by exact absurd ((lg_cmp_eq _ _).mpr rfl) c_1427))
    refine lv_goto (tgt := 1773) hx hb dL_law_1432 (by decide) ?_
    exact W.widen (by omega) (by omega) (K _ _ _ _ _ _ (hR8) (hO9) (hC8) _ _ hM hS _ (lv_sub hl [2, 3, 4, 5, 6, 7] rfl))

set_option maxHeartbeats 4000000 in
set_option maxRecDepth 100000 in
theorem lw_case18 (l : Launch) (hfl : l.stackTraces = false) {p : Program} {e : Env} {s : State} {m : MethodId} {below : List Frame} {meth : Method} {c : Code} {b L : Nat} {xs : Nat → Int32} {G : mq_G} {A : Nat → Prop} {Q : State → Prop} (hC0 : lw_C p s m meth c b L xs G A) {f : mq_F} {ad : AD} {S : AT} {X : CX} {Y : MX} {O : OX} {T : Nat} (hR : WR G f ad S X S Y O) (hO : cOK S X T) (hC : mCp S Y) (hT5 : T < 512) (hTL : 6 * T + 6 ≤ L) (K : lw_K p l e s m below meth c b G A Q T) {H : Heap} {locs : List Loc} (hM : mq_W G.1 A f H) (hS : va_S A s.heap H locs) {ls : Array Slot} (hl : lv_has ls 9 [(0, .ref b), (1, .ref (ad 0 0 0)), (2, .ref (ad 20 0 0)), (3, .ref (ad 38 0 0)), (4, .ref (ad 39 0 0)), (5, .int (nI (6 * T)))]) : W p l e room_1 s m #[Value.ref b] below meth c H locs (100 + 1177 * T) (20000 + 14000 * T) Q (F0 m 1435 ls []) := by
  obtain ⟨hx, hb, hml, hown, hts, hK, hZ, hA, hN, hX, hbl, hbA, hL⟩ := hC0
  have y0 := hR.1 _ _ _ _ t0
  refine lv_aload_n hx hb dL_law_1435 rfl (lv_at hl 1 rfl) ?_
  refine lv_aload_n hx hb dL_law_1436 rfl (lv_at hl 0 rfl) ?_
  refine lv_iload hx hb dL_law_1437 (lv_at hl 5 rfl) ?_
  refine lv_iconst (v := 1) hx hb dL_law_1439 (by decide) ?_
  refine lv_iadd hx hb dL_law_1440 ?_
  rw [show (nI (6 * T)) + 1 = nI ((6 * T) + 1) from nI_add _ _]
  refine va_sld hx hb hX hbl hbA hS (vp_in_nI (by omega) (by omega)) dL_law_1441 ?_
  rw [show (nI ((6 * T) + 1) : Int32).toNatClampNeg = (6 * T) + 1 from nI_clamp (by omega)]
  refine lv_aload_n hx hb dL_law_1442 rfl (lv_at hl 3 rfl) ?_
  refine mq_calli (vx_runSW (As := [.ref (ad 0 0 0), .int (xs ((6 * T) + 1)), .ref (ad 38 0 0)]) (rest := []) ⟨hx, hb, hml, hown, hts⟩ (c_L_explain l hfl G A f ad S X S Y O T (xs (6 * T + 1))) (vx_cwSW 3 hts gL_law_L_explain rfl rfl rfl (by decide +kernel) ⟨Nat.le_of_ble_eq_true rfl, Nat.le_of_ble_eq_true rfl⟩) (lq_preS hK hZ hS hA hM hN (⟨hR, hO, hT5⟩) _) rfl rfl hl.1 rfl (lv_room (Nat.le_of_ble_eq_true rfl)) dL_law_1443 ⟨by show (100 + 1177 * T) + 3 ≤ 603072; omega, by show (20000 + 14000 * T) + 18 ≤ 7194729; omega⟩) hS (fun r1443 g1443 H locs p1443 hM hS => ?_)
  refine W.widen (k := (100 + 1177 * T + 3)) (n := (20000 + 14000 * T + 18)) (by omega) (by omega) ?_
  obtain ⟨c9, v9, O9, X9, e9, rfl, hc9, hv9, hR9, hO9⟩ := p1443
  have y20 := hR9.1 20 0 0 _ t20
  refine lv_istore (lv' := [(6, .int (nI c9)), (0, .ref b), (1, .ref (ad 0 0 0)), (2, .ref (ad 20 0 0)), (3, .ref (ad 38 0 0)), (4, .ref (ad 39 0 0)), (5, .int (nI (6 * T)))]) hx hb dL_law_1446 hl (by decide) rfl (fun ls hl => ?_)
  refine lv_aload_n hx hb dL_law_1448 rfl (lv_at hl 3 rfl) ?_
  refine lv_aload_n hx hb dL_law_1449 rfl (lv_at hl 1 rfl) ?_
  refine lv_iload hx hb dL_law_1450 (lv_at hl 6 rfl) ?_
  refine lv_iconst (v := 1) hx hb dL_law_1452 (by decide) ?_
  refine lv_iadd hx hb dL_law_1453 ?_
  rw [show (nI (6 * T)) + 1 = nI ((6 * T) + 1) from nI_add _ _]
  refine va_sld hx hb hX hbl hbA hS (vp_in_nI (by omega) (by omega)) dL_law_1454 ?_
  rw [show (nI ((6 * T) + 1) : Int32).toNatClampNeg = (6 * T) + 1 from nI_clamp (by omega)]
  refine mq_calli (va_runV (As := [.int (xs ((6 * T) + 1))]) (rest := []) ⟨hx, hb, hml, hown, hts⟩ (c_X11_explain l G A g1443 ad S X9 S Y O9 T (xs (6 * T + 1))) (cwV 1 hts gL_law_X11_explain rfl rfl rfl (by decide +kernel) ⟨Nat.le_of_ble_eq_true rfl, Nat.le_of_ble_eq_true rfl⟩) (mq_preV hK hZ hS hA hM (q := (RX11, TX11, 4)) y20 rfl (⟨hR9, ⟨⟨X, hO⟩, hC⟩⟩) _) rfl rfl hl.1 rfl (lv_room (Nat.le_of_ble_eq_true rfl)) dL_law_1455 ⟨by show (100 + 1177 * T + 3) + 1130 ≤ 603072; omega, by show (20000 + 14000 * T + 18) + 4520 ≤ 7194729; omega⟩) hS (fun r1455 g1455 H locs p1455 hM hS => ?_)
  refine W.widen (k := (100 + 1177 * T + 1133)) (n := (20000 + 14000 * T + 4538)) (by omega) (by omega) ?_
  obtain ⟨c8, e8, hR8⟩ := p1455
  obtain ⟨rfl, rfl⟩ := Prod.mk.inj (e9.symm.trans e8)
  have y20b := hR8.1 20 0 0 _ t20
  refine lv_istore (lv' := [(7, .int v9), (6, .int (nI c9)), (0, .ref b), (1, .ref (ad 0 0 0)), (2, .ref (ad 20 0 0)), (3, .ref (ad 38 0 0)), (4, .ref (ad 39 0 0)), (5, .int (nI (6 * T)))]) hx hb dL_law_1458 hl (by decide) rfl (fun ls hl => ?_)
  refine lv_aload_n hx hb dL_law_1460 rfl (lv_at hl 4 rfl) ?_
  refine mq_calli (va_runV (As := []) (rest := []) ⟨hx, hb, hml, hown, hts⟩ (c_X11_thrown l G A g1455 (ad 20 0 0) (yT (yThr Y (nI c9))) (nI (aD S)) (ad 21 0 0) (ad 23 0 0)) (cwV 0 hts gL_law_X11_thrown rfl rfl rfl (by decide +kernel) ⟨Nat.le_of_ble_eq_true rfl, Nat.le_of_ble_eq_true rfl⟩) (mq_preV hK hZ hS hA hM (q := (RX11, TX11, 4)) y20b rfl (y20b) _) rfl rfl hl.1 rfl (lv_room (Nat.le_of_ble_eq_true rfl)) dL_law_1461 ⟨by show (100 + 1177 * T + 1133) + 0 ≤ 603072; omega, by show (20000 + 14000 * T + 4538) + 0 ≤ 7194729; omega⟩) hS (fun r1461 g1461 H locs p1461 hM hS => ?_)
  refine W.widen (k := (100 + 1177 * T + 1133)) (n := (20000 + 14000 * T + 4538)) (by omega) (by omega) ?_
  obtain ⟨rfl, hr3⟩ := p1461
  have hr3 : r1461 = nI c9 := hr3
  subst hr3
  refine lv_iload hx hb dL_law_1464 (lv_at hl 1 rfl) ?_
  refine lv_icmp_eq (tgt := 1471) hx hb dL_law_1466 (by decide) (fun c_1466 => ?_) (fun c_1466 => (by exact absurd rfl c_1466))
  refine lv_iload hx hb dL_law_1471 (lv_at hl 1 rfl) ?_
  refine lv_if_ne (tgt := 1488) hx hb dL_law_1473 (by decide) (fun c_1473 => ?_) (fun c_1473 => ?_)
  · replace c_1473 : ¬ nI c9 = nI 0 := c_1473
    rw [nI_eq (by omega) (by omega)] at c_1473
    refine lv_goto (tgt := 1773) hx hb dL_law_1488 (by decide) ?_
    exact W.widen (by omega) (by omega) (K _ _ _ _ _ _ (hR8) (hO9) (hC) _ _ hM hS _ (lv_sub hl [2, 3, 4, 5, 6, 7] rfl))
  · replace c_1473 : nI c9 = nI 0 := c_1473
    rw [nI_eq (by omega) (by omega)] at c_1473
    have y38 := hR8.1 38 0 0 _ t38
    refine lv_aload_n hx hb dL_law_1476 rfl (lv_at hl 5 rfl) ?_
    refine lv_iconst (v := 0) hx hb dL_law_1477 (by decide) ?_
    refine mq_lald hx hb hK hM y38 (vp_in_nI (n := 0) (by decide) (by decide)) dL_law_1478 ?_
    rw [show (0 : Int32).toNatClampNeg = 0 from rfl]
    rw [show O9.1 0 = v9.toInt64 from hv9 c_1473]
    refine lv_iload hx hb dL_law_1479 (lv_at hl 0 rfl) ?_
    refine lv_i2l hx hb dL_law_1481 rfl ?_
    refine W.lcmp hx hb dL_law_1482 ?_
    refine lv_if_eq (tgt := 1488) hx hb dL_law_1483 (by decide) (fun c_1483 => ?_) (fun c_1483 => (by exact absurd ((lg_cmp_eq _ _).mpr rfl) c_1483))
    refine lv_goto (tgt := 1773) hx hb dL_law_1488 (by decide) ?_
    exact W.widen (by omega) (by omega) (K _ _ _ _ _ _ (hR8) (hO9) (hC) _ _ hM hS _ (lv_sub hl [2, 3, 4, 5, 6, 7] rfl))

set_option maxHeartbeats 4000000 in
set_option maxRecDepth 100000 in
theorem lw_case19 (l : Launch) (hfl : l.stackTraces = false) {p : Program} {e : Env} {s : State} {m : MethodId} {below : List Frame} {meth : Method} {c : Code} {b L : Nat} {xs : Nat → Int32} {G : mq_G} {A : Nat → Prop} {Q : State → Prop} (hC0 : lw_C p s m meth c b L xs G A) {f : mq_F} {ad : AD} {S : AT} {X : CX} {Y : MX} {O : OX} {T : Nat} (hR : WR G f ad S X S Y O) (hO : cOK S X T) (hC : mCp S Y) (hT5 : T < 512) (hTL : 6 * T + 6 ≤ L) (K : lw_K p l e s m below meth c b G A Q T) {H : Heap} {locs : List Loc} (hM : mq_W G.1 A f H) (hS : va_S A s.heap H locs) {ls : Array Slot} (hl : lv_has ls 9 [(0, .ref b), (1, .ref (ad 0 0 0)), (2, .ref (ad 20 0 0)), (3, .ref (ad 38 0 0)), (4, .ref (ad 39 0 0)), (5, .int (nI (6 * T)))]) : W p l e room_1 s m #[Value.ref b] below meth c H locs (100 + 1177 * T) (20000 + 14000 * T) Q (F0 m 1491 ls []) := by
  obtain ⟨hx, hb, hml, hown, hts, hK, hZ, hA, hN, hX, hbl, hbA, hL⟩ := hC0
  have y0 := hR.1 _ _ _ _ t0
  refine lv_aload_n hx hb dL_law_1491 rfl (lv_at hl 1 rfl) ?_
  refine lv_aload_n hx hb dL_law_1492 rfl (lv_at hl 0 rfl) ?_
  refine lv_iload hx hb dL_law_1493 (lv_at hl 5 rfl) ?_
  refine lv_iconst (v := 1) hx hb dL_law_1495 (by decide) ?_
  refine lv_iadd hx hb dL_law_1496 ?_
  rw [show (nI (6 * T)) + 1 = nI ((6 * T) + 1) from nI_add _ _]
  refine va_sld hx hb hX hbl hbA hS (vp_in_nI (by omega) (by omega)) dL_law_1497 ?_
  rw [show (nI ((6 * T) + 1) : Int32).toNatClampNeg = (6 * T) + 1 from nI_clamp (by omega)]
  refine lv_aload_n hx hb dL_law_1498 rfl (lv_at hl 3 rfl) ?_
  refine mq_calli (vx_runSW (As := [.ref (ad 0 0 0), .int (xs ((6 * T) + 1)), .ref (ad 38 0 0)]) (rest := []) ⟨hx, hb, hml, hown, hts⟩ (c_L_hint l hfl G A f ad S X S Y O T (xs (6 * T + 1))) (vx_cwSW 3 hts gL_law_L_hint rfl rfl rfl (by decide +kernel) ⟨Nat.le_of_ble_eq_true rfl, Nat.le_of_ble_eq_true rfl⟩) (lq_preS hK hZ hS hA hM hN (⟨hR, hO, hT5⟩) _) rfl rfl hl.1 rfl (lv_room (Nat.le_of_ble_eq_true rfl)) dL_law_1499 ⟨by show (100 + 1177 * T) + 5 ≤ 603072; omega, by show (20000 + 14000 * T) + 24 ≤ 7194729; omega⟩) hS (fun r1499 g1499 H locs p1499 hM hS => ?_)
  refine W.widen (k := (100 + 1177 * T + 5)) (n := (20000 + 14000 * T + 24)) (by omega) (by omega) ?_
  obtain ⟨c9, v9, S9, X9, O9, ad9, e9, rfl, hc9, hv9, hR9, hO9, hk9⟩ := p1499
  have y20 := hR9.1 20 0 0 _ t20
  refine lv_istore (lv' := [(6, .int (nI c9)), (0, .ref b), (1, .ref (ad 0 0 0)), (2, .ref (ad 20 0 0)), (3, .ref (ad 38 0 0)), (4, .ref (ad 39 0 0)), (5, .int (nI (6 * T)))]) hx hb dL_law_1502 hl (by decide) rfl (fun ls hl => ?_)
  rw [← hk9.1, ← hk9.2.1, ← hk9.2.2.1, ← hk9.2.2.2] at hl
  refine lv_aload_n hx hb dL_law_1504 rfl (lv_at hl 3 rfl) ?_
  refine lv_aload_n hx hb dL_law_1505 rfl (lv_at hl 1 rfl) ?_
  refine lv_iload hx hb dL_law_1506 (lv_at hl 6 rfl) ?_
  refine lv_iconst (v := 1) hx hb dL_law_1508 (by decide) ?_
  refine lv_iadd hx hb dL_law_1509 ?_
  rw [show (nI (6 * T)) + 1 = nI ((6 * T) + 1) from nI_add _ _]
  refine va_sld hx hb hX hbl hbA hS (vp_in_nI (by omega) (by omega)) dL_law_1510 ?_
  rw [show (nI ((6 * T) + 1) : Int32).toNatClampNeg = (6 * T) + 1 from nI_clamp (by omega)]
  refine mq_calli (va_runV (As := [.int (xs ((6 * T) + 1))]) (rest := []) ⟨hx, hb, hml, hown, hts⟩ (c_X11_hint l G A g1499 ad9 S9 X9 S Y O9 T (xs (6 * T + 1))) (cwV 1 hts gL_law_X11_hint rfl rfl rfl (by decide +kernel) ⟨Nat.le_of_ble_eq_true rfl, Nat.le_of_ble_eq_true rfl⟩) (mq_preV hK hZ hS hA hM (q := (RX11, TX11, 4)) y20 rfl (⟨hR9, ⟨⟨X, hO⟩, hC⟩⟩) _) rfl rfl hl.1 rfl (lv_room (Nat.le_of_ble_eq_true rfl)) dL_law_1511 ⟨by show (100 + 1177 * T + 5) + 4 ≤ 603072; omega, by show (20000 + 14000 * T + 24) + 15 ≤ 7194729; omega⟩) hS (fun r1511 g1511 H locs p1511 hM hS => ?_)
  refine W.widen (k := (100 + 1177 * T + 9)) (n := (20000 + 14000 * T + 39)) (by omega) (by omega) ?_
  obtain ⟨c8, S8, Y8, ad8, e8, hR8, hC8, hk8⟩ := p1511
  obtain ⟨rfl, e7⟩ := Prod.mk.inj (e9.symm.trans e8)
  obtain ⟨rfl, rfl⟩ := Prod.mk.inj e7
  have y20b := hR8.1 20 0 0 _ t20
  refine lv_istore (lv' := [(7, .int v9), (6, .int (nI c9)), (0, .ref b), (1, .ref (ad9 0 0 0)), (2, .ref (ad9 20 0 0)), (3, .ref (ad9 38 0 0)), (4, .ref (ad9 39 0 0)), (5, .int (nI (6 * T)))]) hx hb dL_law_1514 hl (by decide) rfl (fun ls hl => ?_)
  rw [← hk8.1, ← hk8.2.1, ← hk8.2.2.1, ← hk8.2.2.2] at hl
  refine lv_aload_n hx hb dL_law_1516 rfl (lv_at hl 4 rfl) ?_
  refine mq_calli (va_runV (As := []) (rest := []) ⟨hx, hb, hml, hown, hts⟩ (c_X11_thrown l G A g1511 (ad8 20 0 0) (yT (yThr Y8 (nI c9))) (nI (aD S9)) (ad8 21 0 0) (ad8 23 0 0)) (cwV 0 hts gL_law_X11_thrown rfl rfl rfl (by decide +kernel) ⟨Nat.le_of_ble_eq_true rfl, Nat.le_of_ble_eq_true rfl⟩) (mq_preV hK hZ hS hA hM (q := (RX11, TX11, 4)) y20b rfl (y20b) _) rfl rfl hl.1 rfl (lv_room (Nat.le_of_ble_eq_true rfl)) dL_law_1517 ⟨by show (100 + 1177 * T + 9) + 0 ≤ 603072; omega, by show (20000 + 14000 * T + 39) + 0 ≤ 7194729; omega⟩) hS (fun r1517 g1517 H locs p1517 hM hS => ?_)
  refine W.widen (k := (100 + 1177 * T + 9)) (n := (20000 + 14000 * T + 39)) (by omega) (by omega) ?_
  obtain ⟨rfl, hr3⟩ := p1517
  have hr3 : r1517 = nI c9 := hr3
  subst hr3
  refine lv_iload hx hb dL_law_1520 (lv_at hl 1 rfl) ?_
  refine lv_icmp_eq (tgt := 1527) hx hb dL_law_1522 (by decide) (fun c_1522 => ?_) (fun c_1522 => (by exact absurd rfl c_1522))
  refine lv_iload hx hb dL_law_1527 (lv_at hl 1 rfl) ?_
  refine lv_if_ne (tgt := 1544) hx hb dL_law_1529 (by decide) (fun c_1529 => ?_) (fun c_1529 => ?_)
  · replace c_1529 : ¬ nI c9 = nI 0 := c_1529
    rw [nI_eq (by omega) (by omega)] at c_1529
    refine lv_goto (tgt := 1773) hx hb dL_law_1544 (by decide) ?_
    exact W.widen (by omega) (by omega) (K _ _ _ _ _ _ (hR8) (hO9) (hC8) _ _ hM hS _ (lv_sub hl [2, 3, 4, 5, 6, 7] rfl))
  · replace c_1529 : nI c9 = nI 0 := c_1529
    rw [nI_eq (by omega) (by omega)] at c_1529
    have y38 := hR8.1 38 0 0 _ t38
    refine lv_aload_n hx hb dL_law_1532 rfl (lv_at hl 5 rfl) ?_
    refine lv_iconst (v := 0) hx hb dL_law_1533 (by decide) ?_
    refine mq_lald hx hb hK hM y38 (vp_in_nI (n := 0) (by decide) (by decide)) dL_law_1534 ?_
    rw [show (0 : Int32).toNatClampNeg = 0 from rfl]
    rw [show O9.1 0 = v9.toInt64 from hv9 c_1529]
    refine lv_iload hx hb dL_law_1535 (lv_at hl 0 rfl) ?_
    refine lv_i2l hx hb dL_law_1537 rfl ?_
    refine W.lcmp hx hb dL_law_1538 ?_
    refine lv_if_eq (tgt := 1544) hx hb dL_law_1539 (by decide) (fun c_1539 => ?_) (fun c_1539 => (by exact absurd ((lg_cmp_eq _ _).mpr rfl) c_1539))
    refine lv_goto (tgt := 1773) hx hb dL_law_1544 (by decide) ?_
    exact W.widen (by omega) (by omega) (K _ _ _ _ _ _ (hR8) (hO9) (hC8) _ _ hM hS _ (lv_sub hl [2, 3, 4, 5, 6, 7] rfl))
