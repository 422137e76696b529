/-! THE LAW, call by call -/
set_option maxHeartbeats 4000000 in
set_option maxRecDepth 100000 in
theorem lw_case10 (l : Launch) (hfl : l.stackTraces = false) {p : Program} {e : Env} {s : State} {m : MethodId} {below : List Frame} {meth : Method} {c : Code} {b L : Nat} {xs : Nat → Int32} {G : mq_G} {A : Nat → Prop} {Q : State → Prop} (hC0 : lw_C p s m meth c b L xs G A) {f : mq_F} {ad : AD} {S : AT} {X : CX} {Y : MX} {O : OX} {T : Nat} (hR : WR G f ad S X S Y O) (hO : cOK S X T) (hC : mCp S Y) (hT5 : T < 512) (hTL : 6 * T + 6 ≤ L) (K : lw_K p l e s m below meth c b G A Q T) {H : Heap} {locs : List Loc} (hM : mq_W G.1 A f H) (hS : va_S A s.heap H locs) {ls : Array Slot} (hl : lv_has ls 9 [(0, .ref b), (1, .ref (ad 0 0 0)), (2, .ref (ad 20 0 0)), (3, .ref (ad 38 0 0)), (4, .ref (ad 39 0 0)), (5, .int (nI (6 * T)))]) : W p l e room_1 s m #[Value.ref b] below meth c H locs (100 + 1177 * T) (20000 + 14000 * T) Q (F0 m 889 ls []) := by
  obtain ⟨hx, hb, hml, hown, hts, hK, hZ, hA, hN, hX, hbl, hbA, hL⟩ := hC0
  have y0 := hR.1 _ _ _ _ t0
  refine lv_aload_n hx hb dL_law_889 rfl (lv_at hl 1 rfl) ?_
  refine lv_aload_n hx hb dL_law_890 rfl (lv_at hl 3 rfl) ?_
  refine mq_calli (vx_runSW (As := [.ref (ad 0 0 0), .ref (ad 38 0 0)]) (rest := []) ⟨hx, hb, hml, hown, hts⟩ (c_L_nextDay l hfl G A f ad S X S Y O T) (vx_cwSW 2 hts gL_law_L_nextDay rfl rfl rfl (by decide +kernel) ⟨Nat.le_of_ble_eq_true rfl, Nat.le_of_ble_eq_true rfl⟩) (lq_preS hK hZ hS hA hM hN (⟨hR, hO, hT5⟩) _) rfl rfl hl.1 rfl (lv_room (Nat.le_of_ble_eq_true rfl)) dL_law_891 ⟨by show (100 + 1177 * T) + 1 ≤ 603072; omega, by show (20000 + 14000 * T) + 6 ≤ 7194729; omega⟩) hS (fun r891 g891 H locs p891 hM hS => ?_)
  refine W.widen (k := (100 + 1177 * T + 1)) (n := (20000 + 14000 * T + 6)) (by omega) (by omega) ?_
  obtain ⟨c9, v9, S9, X9, O9, ad9, e9, rfl, hc9, hv9, hR9, hO9, hk9⟩ := p891
  have y20 := hR9.1 20 0 0 _ t20
  refine lv_istore (lv' := [(6, .int (nI c9)), (0, .ref b), (1, .ref (ad 0 0 0)), (2, .ref (ad 20 0 0)), (3, .ref (ad 38 0 0)), (4, .ref (ad 39 0 0)), (5, .int (nI (6 * T)))]) hx hb dL_law_894 hl (by decide) rfl (fun ls hl => ?_)
  rw [← hk9.1, ← hk9.2.1, ← hk9.2.2.1, ← hk9.2.2.2] at hl
  refine lv_aload_n hx hb dL_law_896 rfl (lv_at hl 3 rfl) ?_
  refine mq_calli (va_runV (As := []) (rest := []) ⟨hx, hb, hml, hown, hts⟩ (c_X11_nextDay l G A g891 ad9 S9 X9 S Y O9 T) (cwV 0 hts gL_law_X11_nextDay rfl rfl rfl (by decide +kernel) ⟨Nat.le_of_ble_eq_true rfl, Nat.le_of_ble_eq_true rfl⟩) (mq_preV hK hZ hS hA hM (q := (RX11, TX11, 4)) y20 rfl (⟨hR9, ⟨⟨X, hO⟩, hC⟩⟩) _) rfl rfl hl.1 rfl (lv_room (Nat.le_of_ble_eq_true rfl)) dL_law_897 ⟨by show (100 + 1177 * T + 1) + 0 ≤ 603072; omega, by show (20000 + 14000 * T + 6) + 0 ≤ 7194729; omega⟩) hS (fun r897 g897 H locs p897 hM hS => ?_)
  refine W.widen (k := (100 + 1177 * T + 1)) (n := (20000 + 14000 * T + 6)) (by omega) (by omega) ?_
  obtain ⟨c8, S8, e8, hR8, hC8⟩ := p897
  obtain ⟨rfl, e7⟩ := Prod.mk.inj (e9.symm.trans e8)
  obtain ⟨rfl, rfl⟩ := Prod.mk.inj e7
  have y20b := hR8.1 20 0 0 _ t20
  refine lv_istore (lv' := [(7, .int v9), (6, .int (nI c9)), (0, .ref b), (1, .ref (ad9 0 0 0)), (2, .ref (ad9 20 0 0)), (3, .ref (ad9 38 0 0)), (4, .ref (ad9 39 0 0)), (5, .int (nI (6 * T)))]) hx hb dL_law_900 hl (by decide) rfl (fun ls hl => ?_)
  refine lv_aload_n hx hb dL_law_902 rfl (lv_at hl 4 rfl) ?_
  refine mq_calli (va_runV (As := []) (rest := []) ⟨hx, hb, hml, hown, hts⟩ (c_X11_thrown l G A g897 (ad9 20 0 0) (yT (yThr Y (nI c9))) (nI (aD S9)) (ad9 21 0 0) (ad9 23 0 0)) (cwV 0 hts gL_law_X11_thrown rfl rfl rfl (by decide +kernel) ⟨Nat.le_of_ble_eq_true rfl, Nat.le_of_ble_eq_true rfl⟩) (mq_preV hK hZ hS hA hM (q := (RX11, TX11, 4)) y20b rfl (y20b) _) rfl rfl hl.1 rfl (lv_room (Nat.le_of_ble_eq_true rfl)) dL_law_903 ⟨by show (100 + 1177 * T + 1) + 0 ≤ 603072; omega, by show (20000 + 14000 * T + 6) + 0 ≤ 7194729; omega⟩) hS (fun r903 g903 H locs p903 hM hS => ?_)
  refine W.widen (k := (100 + 1177 * T + 1)) (n := (20000 + 14000 * T + 6)) (by omega) (by omega) ?_
  obtain ⟨rfl, hr3⟩ := p903
  have hr3 : r903 = nI c9 := hr3
  subst hr3
  refine lv_iload hx hb dL_law_906 (lv_at hl 1 rfl) ?_
  refine lv_icmp_eq (tgt := 913) hx hb dL_law_908 (by decide) (fun c_908 => ?_) (fun c_908 => (by exact absurd rfl c_908))
  refine lv_iload hx hb dL_law_913 (lv_at hl 1 rfl) ?_
  refine lv_if_ne (tgt := 930) hx hb dL_law_915 (by decide) (fun c_915 => ?_) (fun c_915 => ?_)
  · replace c_915 : ¬ nI c9 = nI 0 := c_915
    rw [nI_eq (by omega) (by omega)] at c_915
    refine lv_goto (tgt := 1773) hx hb dL_law_930 (by decide) ?_
    exact W.widen (by omega) (by omega) (K _ _ _ _ _ _ (hR8) (hO9) (hC8) _ _ hM hS _ (lv_sub hl [2, 3, 4, 5, 6, 7] rfl))
  · replace c_915 : nI c9 = nI 0 := c_915
    rw [nI_eq (by omega) (by omega)] at c_915
    have y38 := hR8.1 38 0 0 _ t38
    refine lv_aload_n hx hb dL_law_918 rfl (lv_at hl 5 rfl) ?_
    refine lv_iconst (v := 0) hx hb dL_law_919 (by decide) ?_
    refine mq_lald hx hb hK hM y38 (vp_in_nI (n := 0) (by decide) (by decide)) dL_law_920 ?_
    rw [show (0 : Int32).toNatClampNeg = 0 from rfl]
    rw [show O9.1 0 = v9.toInt64 from hv9 c_915]
    refine lv_iload hx hb dL_law_921 (lv_at hl 0 rfl) ?_
    refine lv_i2l hx hb dL_law_923 rfl ?_
    refine W.lcmp hx hb dL_law_924 ?_
    refine lv_if_eq (tgt := 930) hx hb dL_law_925 (by decide) (fun c_925 => ?_) (fun c_925 => (by exact absurd ((lg_cmp_eq _ _).mpr rfl) c_925))
    refine lv_goto (tgt := 1773) hx hb dL_law_930 (by decide) ?_
    exact W.widen (by omega) (by omega) (K _ _ _ _ _ _ (hR8) (hO9) (hC8) _ _ hM hS _ (lv_sub hl [2, 3, 4, 5, 6, 7] rfl))

set_option maxHeartbeats 4000000 in
set_option maxRecDepth 100000 in
theorem lw_case11 (l : Launch) (hfl : l.stackTraces = false) {p : Program} {e : Env} {s : State} {m : MethodId} {below : List Frame} {meth : Method} {c : Code} {b L : Nat} {xs : Nat → Int32} {G : mq_G} {A : Nat → Prop} {Q : State → Prop} (hC0 : lw_C p s m meth c b L xs G A) {f : mq_F} {ad : AD} {S : AT} {X : CX} {Y : MX} {O : OX} {T : Nat} (hR : WR G f ad S X S Y O) (hO : cOK S X T) (hC : mCp S Y) (hT5 : T < 512) (hTL : 6 * T + 6 ≤ L) (K : lw_K p l e s m below meth c b G A Q T) {H : Heap} {locs : List Loc} (hM : mq_W G.1 A f H) (hS : va_S A s.heap H locs) {ls : Array Slot} (hl : lv_has ls 9 [(0, .ref b), (1, .ref (ad 0 0 0)), (2, .ref (ad 20 0 0)), (3, .ref (ad 38 0 0)), (4, .ref (ad 39 0 0)), (5, .int (nI (6 * T)))]) : W p l e room_1 s m #[Value.ref b] below meth c H locs (100 + 1177 * T) (20000 + 14000 * T) Q (F0 m 933 ls []) := by
  obtain ⟨hx, hb, hml, hown, hts, hK, hZ, hA, hN, hX, hbl, hbA, hL⟩ := hC0
  have y0 := hR.1 _ _ _ _ t0
  refine lv_aload_n hx hb dL_law_933 rfl (lv_at hl 1 rfl) ?_
  refine lv_aload_n hx hb dL_law_934 rfl (lv_at hl 0 rfl) ?_
  refine lv_iload hx hb dL_law_935 (lv_at hl 5 rfl) ?_
  refine lv_iconst (v := 1) hx hb dL_law_937 (by decide) ?_
  refine lv_iadd hx hb dL_law_938 ?_
  rw [show (nI (6 * T)) + 1 = nI ((6 * T) + 1) from nI_add _ _]
  refine va_sld hx hb hX hbl hbA hS (vp_in_nI (by omega) (by omega)) dL_law_939 ?_
  rw [show (nI ((6 * T) + 1) : Int32).toNatClampNeg = (6 * T) + 1 from nI_clamp (by omega)]
  refine lv_aload_n hx hb dL_law_940 rfl (lv_at hl 0 rfl) ?_
  refine lv_iload hx hb dL_law_941 (lv_at hl 5 rfl) ?_
  refine lv_iconst (v := 2) hx hb dL_law_943 (by decide) ?_
  refine lv_iadd hx hb dL_law_944 ?_
  rw [show (nI (6 * T)) + 2 = nI ((6 * T) + 2) from nI_add _ _]
  refine va_sld hx hb hX hbl hbA hS (vp_in_nI (by omega) (by omega)) dL_law_945 ?_
  rw [show (nI ((6 * T) + 2) : Int32).toNatClampNeg = (6 * T) + 2 from nI_clamp (by omega)]
  refine lv_aload_n hx hb dL_law_946 rfl (lv_at hl 3 rfl) ?_
  refine mq_calli (vx_runSW (As := [.ref (ad 0 0 0), .int (xs ((6 * T) + 1)), .int (xs ((6 * T) + 2)), .ref (ad 38 0 0)]) (rest := []) ⟨hx, hb, hml, hown, hts⟩ (c_L_due l hfl G A f ad S X S Y O T (xs (6 * T + 1)) (xs (6 * T + 2))) (vx_cwSW 4 hts gL_law_L_due rfl rfl rfl (by decide +kernel) ⟨Nat.le_of_ble_eq_true rfl, Nat.le_of_ble_eq_true rfl⟩) (lq_preS hK hZ hS hA hM hN (⟨hR, hO, hT5⟩) _) rfl rfl hl.1 rfl (lv_room (Nat.le_of_ble_eq_true rfl)) dL_law_947 ⟨by show (100 + 1177 * T) + 3 ≤ 603072; omega, by show (20000 + 14000 * T) + 18 ≤ 7194729; omega⟩) hS (fun r947 g947 H locs p947 hM hS => ?_)
  refine W.widen (k := (100 + 1177 * T + 3)) (n := (20000 + 14000 * T + 18)) (by omega) (by omega) ?_
  obtain ⟨c9, v9, O9, e9, rfl, hc9, hv9, hR9⟩ := p947
  have y20 := hR9.1 20 0 0 _ t20
  have hO9 := ok_mono hO hT5
  refine lv_istore (lv' := [(6, .int (nI c9)), (0, .ref b), (1, .ref (ad 0 0 0)), (2, .ref (ad 20 0 0)), (3, .ref (ad 38 0 0)), (4, .ref (ad 39 0 0)), (5, .int (nI (6 * T)))]) hx hb dL_law_950 hl (by decide) rfl (fun ls hl => ?_)
  refine lv_aload_n hx hb dL_law_952 rfl (lv_at hl 3 rfl) ?_
  refine lv_aload_n hx hb dL_law_953 rfl (lv_at hl 1 rfl) ?_
  refine lv_iload hx hb dL_law_954 (lv_at hl 6 rfl) ?_
  refine lv_iconst (v := 1) hx hb dL_law_956 (by decide) ?_
  refine lv_iadd hx hb dL_law_957 ?_
  rw [show (nI (6 * T)) + 1 = nI ((6 * T) + 1) from nI_add _ _]
  refine va_sld hx hb hX hbl hbA hS (vp_in_nI (by omega) (by omega)) dL_law_958 ?_
  rw [show (nI ((6 * T) + 1) : Int32).toNatClampNeg = (6 * T) + 1 from nI_clamp (by omega)]
  refine lv_aload_n hx hb dL_law_959 rfl (lv_at hl 1 rfl) ?_
  refine lv_iload hx hb dL_law_960 (lv_at hl 6 rfl) ?_
  refine lv_iconst (v := 2) hx hb dL_law_962 (by decide) ?_
  refine lv_iadd hx hb dL_law_963 ?_
  rw [show (nI (6 * T)) + 2 = nI ((6 * T) + 2) from nI_add _ _]
  refine va_sld hx hb hX hbl hbA hS (vp_in_nI (by omega) (by omega)) dL_law_964 ?_
  rw [show (nI ((6 * T) + 2) : Int32).toNatClampNeg = (6 * T) + 2 from nI_clamp (by omega)]
  refine mq_calli (va_runV (As := [.int (xs ((6 * T) + 1)), .int (xs ((6 * T) + 2))]) (rest := []) ⟨hx, hb, hml, hown, hts⟩ (c_X11_due l G A g947 ad S X S Y O9 T (xs (6 * T + 1)) (xs (6 * T + 2))) (cwV 2 hts gL_law_X11_due rfl rfl rfl (by decide +kernel) ⟨Nat.le_of_ble_eq_true rfl, Nat.le_of_ble_eq_true rfl⟩) (mq_preV hK hZ hS hA hM (q := (RX11, TX11, 4)) y20 rfl (⟨hR9, ⟨⟨X, hO⟩, hC⟩⟩) _) rfl rfl hl.1 rfl (lv_room (Nat.le_of_ble_eq_true rfl)) dL_law_965 ⟨by show (100 + 1177 * T + 3) + 0 ≤ 603072; omega, by show (20000 + 14000 * T + 18) + 0 ≤ 7194729; omega⟩) hS (fun r965 g965 H locs p965 hM hS => ?_)
  refine W.widen (k := (100 + 1177 * T + 3)) (n := (20000 + 14000 * T + 18)) (by omega) (by omega) ?_
  obtain ⟨c8, e8, hR8⟩ := p965
  obtain ⟨rfl, rfl⟩ := Prod.mk.inj (e9.symm.trans e8)
  have y20b := hR8.1 20 0 0 _ t20
  refine lv_istore (lv' := [(7, .int v9), (6, .int (nI c9)), (0, .ref b), (1, .ref (ad 0 0 0)), (2, .ref (ad 20 0 0)), (3, .ref (ad 38 0 0)), (4, .ref (ad 39 0 0)), (5, .int (nI (6 * T)))]) hx hb dL_law_968 hl (by decide) rfl (fun ls hl => ?_)
  refine lv_aload_n hx hb dL_law_970 rfl (lv_at hl 4 rfl) ?_
  refine mq_calli (va_runV (As := []) (rest := []) ⟨hx, hb, hml, hown, hts⟩ (c_X11_thrown l G A g965 (ad 20 0 0) (yT (yThr Y (nI c9))) (nI (aD S)) (ad 21 0 0) (ad 23 0 0)) (cwV 0 hts gL_law_X11_thrown rfl rfl rfl (by decide +kernel) ⟨Nat.le_of_ble_eq_true rfl, Nat.le_of_ble_eq_true rfl⟩) (mq_preV hK hZ hS hA hM (q := (RX11, TX11, 4)) y20b rfl (y20b) _) rfl rfl hl.1 rfl (lv_room (Nat.le_of_ble_eq_true rfl)) dL_law_971 ⟨by show (100 + 1177 * T + 3) + 0 ≤ 603072; omega, by show (20000 + 14000 * T + 18) + 0 ≤ 7194729; omega⟩) hS (fun r971 g971 H locs p971 hM hS => ?_)
  refine W.widen (k := (100 + 1177 * T + 3)) (n := (20000 + 14000 * T + 18)) (by omega) (by omega) ?_
  obtain ⟨rfl, hr3⟩ := p971
  have hr3 : r971 = nI c9 := hr3
  subst hr3
  refine lv_iload hx hb dL_law_974 (lv_at hl 1 rfl) ?_
  refine lv_icmp_eq (tgt := 981) hx hb dL_law_976 (by decide) (fun c_976 => ?_) (fun c_976 => (by exact absurd rfl c_976))
  refine lv_iload hx hb dL_law_981 (lv_at hl 1 rfl) ?_
  refine lv_if_ne (tgt := 998) hx hb dL_law_983 (by decide) (fun c_983 => ?_) (fun c_983 => ?_)
  · replace c_983 : ¬ nI c9 = nI 0 := c_983
    rw [nI_eq (by omega) (by omega)] at c_983
    refine lv_goto (tgt := 1773) hx hb dL_law_998 (by decide) ?_
    exact W.widen (by omega) (by omega) (K _ _ _ _ _ _ (hR8) (hO9) (hC) _ _ hM hS _ (lv_sub hl [2, 3, 4, 5, 6, 7] rfl))
  · replace c_983 : nI c9 = nI 0 := c_983
    rw [nI_eq (by omega) (by omega)] at c_983
    have y38 := hR8.1 38 0 0 _ t38
    refine lv_aload_n hx hb dL_law_986 rfl (lv_at hl 5 rfl) ?_
    refine lv_iconst (v := 0) hx hb dL_law_987 (by decide) ?_
    refine mq_lald hx hb hK hM y38 (vp_in_nI (n := 0) (by decide) (by decide)) dL_law_988 ?_
    rw [show (0 : Int32).toNatClampNeg = 0 from rfl]
    rw [show O9.1 0 = v9.toInt64 from hv9 c_983]
    refine lv_iload hx hb dL_law_989 (lv_at hl 0 rfl) ?_
    refine lv_i2l hx hb dL_law_991 rfl ?_
    refine W.lcmp hx hb dL_law_992 ?_
    refine lv_if_eq (tgt := 998) hx hb dL_law_993 (by decide) (fun c_993 => ?_) (fun c_993 => (by exact absurd ((lg_cmp_eq _ _).mpr rfl) c_993))
    refine lv_goto (tgt := 1773) hx hb dL_law_998 (by decide) ?_
    exact W.widen (by omega) (by omega) (K _ _ _ _ _ _ (hR8) (hO9) (hC) _ _ hM hS _ (lv_sub hl [2, 3, 4, 5, 6, 7] rfl))

set_option maxHeartbeats 4000000 in
set_option maxRecDepth 100000 in
theorem lw_case12 (l : Launch) (hfl : l.stackTraces = false) {p : Program} {e : Env} {s : State} {m : MethodId} {below : List Frame} {meth : Method} {c : Code} {b L : Nat} {xs : Nat → Int32} {G : mq_G} {A : Nat → Prop} {Q : State → Prop} (hC0 : lw_C p s m meth c b L xs G A) {f : mq_F} {ad : AD} {S : AT} {X : CX} {Y : MX} {O : OX} {T : Nat} (hR : WR G f ad S X S Y O) (hO : cOK S X T) (hC : mCp S Y) (hT5 : T < 512) (hTL : 6 * T + 6 ≤ L) (K : lw_K p l e s m below meth c b G A Q T) {H : Heap} {locs : List Loc} (hM : mq_W G.1 A f H) (hS : va_S A s.heap H locs) {ls : Array Slot} (hl : lv_has ls 9 [(0, .ref b), (1, .ref (ad 0 0 0)), (2, .ref (ad 20 0 0)), (3, .ref (ad 38 0 0)), (4, .ref (ad 39 0 0)), (5, .int (nI (6 * T)))]) : W p l e room_1 s m #[Value.ref b] below meth c H locs (100 + 1177 * T) (20000 + 14000 * T) Q (F0 m 1001 ls []) := by
  obtain ⟨hx, hb, hml, hown, hts, hK, hZ, hA, hN, hX, hbl, hbA, hL⟩ := hC0
  have y0 := hR.1 _ _ _ _ t0
  refine lv_aload_n hx hb dL_law_1001 rfl (lv_at hl 1 rfl) ?_
  refine lv_aload_n hx hb dL_law_1002 rfl (lv_at hl 0 rfl) ?_
  refine lv_iload hx hb dL_law_1003 (lv_at hl 5 rfl) ?_
  refine lv_iconst (v := 1) hx hb dL_law_1005 (by decide) ?_
  refine lv_iadd hx hb dL_law_1006 ?_
  rw [show (nI (6 * T)) + 1 = nI ((6 * T) + 1) from nI_add _ _]
  refine va_sld hx hb hX hbl hbA hS (vp_in_nI (by omega) (by omega)) dL_law_1007 ?_
  rw [show (nI ((6 * T) + 1) : Int32).toNatClampNeg = (6 * T) + 1 from nI_clamp (by omega)]
  refine lv_aload_n hx hb dL_law_1008 rfl (lv_at hl 3 rfl) ?_
  refine mq_calli (vx_runSW (As := [.ref (ad 0 0 0), .int (xs ((6 * T) + 1)), .ref (ad 38 0 0)]) (rest := []) ⟨hx, hb, hml, hown, hts⟩ (c_L_reviews l hfl G A f ad S X S Y O T (xs (6 * T + 1))) (vx_cwSW 3 hts gL_law_L_reviews rfl rfl rfl (by decide +kernel) ⟨Nat.le_of_ble_eq_true rfl, Nat.le_of_ble_eq_true rfl⟩) (lq_preS hK hZ hS hA hM hN (⟨hR, hO, hT5⟩) _) rfl rfl hl.1 rfl (lv_room (Nat.le_of_ble_eq_true rfl)) dL_law_1009 ⟨by show (100 + 1177 * T) + 1 ≤ 603072; omega, by show (20000 + 14000 * T) + 6 ≤ 7194729; omega⟩) hS (fun r1009 g1009 H locs p1009 hM hS => ?_)
  refine W.widen (k := (100 + 1177 * T + 1)) (n := (20000 + 14000 * T + 6)) (by omega) (by omega) ?_
  obtain ⟨c9, v9, O9, e9, rfl, hc9, hv9, hR9⟩ := p1009
  have y20 := hR9.1 20 0 0 _ t20
  have hO9 := ok_mono hO hT5
  refine lv_istore (lv' := [(6, .int (nI c9)), (0, .ref b), (1, .ref (ad 0 0 0)), (2, .ref (ad 20 0 0)), (3, .ref (ad 38 0 0)), (4, .ref (ad 39 0 0)), (5, .int (nI (6 * T)))]) hx hb dL_law_1012 hl (by decide) rfl (fun ls hl => ?_)
  refine lv_aload_n hx hb dL_law_1014 rfl (lv_at hl 3 rfl) ?_
  refine lv_aload_n hx hb dL_law_1015 rfl (lv_at hl 1 rfl) ?_
  refine lv_iload hx hb dL_law_1016 (lv_at hl 6 rfl) ?_
  refine lv_iconst (v := 1) hx hb dL_law_1018 (by decide) ?_
  refine lv_iadd hx hb dL_law_1019 ?_
  rw [show (nI (6 * T)) + 1 = nI ((6 * T) + 1) from nI_add _ _]
  refine va_sld hx hb hX hbl hbA hS (vp_in_nI (by omega) (by omega)) dL_law_1020 ?_
  rw [show (nI ((6 * T) + 1) : Int32).toNatClampNeg = (6 * T) + 1 from nI_clamp (by omega)]
  refine mq_calli (va_runV (As := [.int (xs ((6 * T) + 1))]) (rest := []) ⟨hx, hb, hml, hown, hts⟩ (c_X11_reviews l G A g1009 ad S X S Y O9 T (xs (6 * T + 1))) (cwV 1 hts gL_law_X11_reviews rfl rfl rfl (by decide +kernel) ⟨Nat.le_of_ble_eq_true rfl, Nat.le_of_ble_eq_true rfl⟩) (mq_preV hK hZ hS hA hM (q := (RX11, TX11, 4)) y20 rfl (⟨hR9, ⟨⟨X, hO⟩, hC⟩⟩) _) rfl rfl hl.1 rfl (lv_room (Nat.le_of_ble_eq_true rfl)) dL_law_1021 ⟨by show (100 + 1177 * T + 1) + 11 ≤ 603072; omega, by show (20000 + 14000 * T + 6) + 103 ≤ 7194729; omega⟩) hS (fun r1021 g1021 H locs p1021 hM hS => ?_)
  refine W.widen (k := (100 + 1177 * T + 12)) (n := (20000 + 14000 * T + 109)) (by omega) (by omega) ?_
  obtain ⟨c8, e8, hR8⟩ := p1021
  obtain ⟨rfl, rfl⟩ := Prod.mk.inj (e9.symm.trans e8)
  have y20b := hR8.1 20 0 0 _ t20
  refine lv_istore (lv' := [(7, .int v9), (6, .int (nI c9)), (0, .ref b), (1, .ref (ad 0 0 0)), (2, .ref (ad 20 0 0)), (3, .ref (ad 38 0 0)), (4, .ref (ad 39 0 0)), (5, .int (nI (6 * T)))]) hx hb dL_law_1024 hl (by decide) rfl (fun ls hl => ?_)
  refine lv_aload_n hx hb dL_law_1026 rfl (lv_at hl 4 rfl) ?_
  refine mq_calli (va_runV (As := []) (rest := []) ⟨hx, hb, hml, hown, hts⟩ (c_X11_thrown l G A g1021 (ad 20 0 0) (yT (yThr Y (nI c9))) (nI (aD S)) (ad 21 0 0) (ad 23 0 0)) (cwV 0 hts gL_law_X11_thrown rfl rfl rfl (by decide +kernel) ⟨Nat.le_of_ble_eq_true rfl, Nat.le_of_ble_eq_true rfl⟩) (mq_preV hK hZ hS hA hM (q := (RX11, TX11, 4)) y20b rfl (y20b) _) rfl rfl hl.1 rfl (lv_room (Nat.le_of_ble_eq_true rfl)) dL_law_1027 ⟨by show (100 + 1177 * T + 12) + 0 ≤ 603072; omega, by show (20000 + 14000 * T + 109) + 0 ≤ 7194729; omega⟩) hS (fun r1027 g1027 H locs p1027 hM hS => ?_)
  refine W.widen (k := (100 + 1177 * T + 12)) (n := (20000 + 14000 * T + 109)) (by omega) (by omega) ?_
  obtain ⟨rfl, hr3⟩ := p1027
  have hr3 : r1027 = nI c9 := hr3
  subst hr3
  refine lv_iload hx hb dL_law_1030 (lv_at hl 1 rfl) ?_
  refine lv_icmp_eq (tgt := 1037) hx hb dL_law_1032 (by decide) (fun c_1032 => ?_) (fun c_1032 => (by exact absurd rfl c_1032))
  refine lv_iload hx hb dL_law_1037 (lv_at hl 1 rfl) ?_
  refine lv_if_ne (tgt := 1054) hx hb dL_law_1039 (by decide) (fun c_1039 => ?_) (fun c_1039 => ?_)
  · replace c_1039 : ¬ nI c9 = nI 0 := c_1039
    rw [nI_eq (by omega) (by omega)] at c_1039
    refine lv_goto (tgt := 1773) hx hb dL_law_1054 (by decide) ?_
    exact W.widen (by omega) (by omega) (K _ _ _ _ _ _ (hR8) (hO9) (hC) _ _ hM hS _ (lv_sub hl [2, 3, 4, 5, 6, 7] rfl))
  · replace c_1039 : nI c9 = nI 0 := c_1039
    rw [nI_eq (by omega) (by omega)] at c_1039
    have y38 := hR8.1 38 0 0 _ t38
    refine lv_aload_n hx hb dL_law_1042 rfl (lv_at hl 5 rfl) ?_
    refine lv_iconst (v := 0) hx hb dL_law_1043 (by decide) ?_
    refine mq_lald hx hb hK hM y38 (vp_in_nI (n := 0) (by decide) (by decide)) dL_law_1044 ?_
    rw [show (0 : Int32).toNatClampNeg = 0 from rfl]
    rw [show O9.1 0 = v9.toInt64 from hv9 c_1039]
    refine lv_iload hx hb dL_law_1045 (lv_at hl 0 rfl) ?_
    refine lv_i2l hx hb dL_law_1047 rfl ?_
    refine W.lcmp hx hb dL_law_1048 ?_
    refine lv_if_eq (tgt := 1054) hx hb dL_law_1049 (by decide) (fun c_1049 => ?_) (fun c_1049 => (by exact absurd ((lg_cmp_eq _ _).mpr rfl) c_1049))
    refine lv_goto (tgt := 1773) hx hb dL_law_1054 (by decide) ?_
    exact W.widen (by omega) (by omega) (K _ _ _ _ _ _ (hR8) (hO9) (hC) _ _ hM hS _ (lv_sub hl [2, 3, 4, 5, 6, 7] rfl))

set_option maxHeartbeats 4000000 in
set_option maxRecDepth 100000 in
theorem lw_case13 (l : Launch) (hfl : l.stackTraces = false) {p : Program} {e : Env} {s : State} {m : MethodId} {below : List Frame} {meth : Method} {c : Code} {b L : Nat} {xs : Nat → Int32} {G : mq_G} {A : Nat → Prop} {Q : State → Prop} (hC0 : lw_C p s m meth c b L xs G A) {f : mq_F} {ad : AD} {S : AT} {X : CX} {Y : MX} {O : OX} {T : Nat} (hR : WR G f ad S X S Y O) (hO : cOK S X T) (hC : mCp S Y) (hT5 : T < 512) (hTL : 6 * T + 6 ≤ L) (K : lw_K p l e s m below meth c b G A Q T) {H : Heap} {locs : List Loc} (hM : mq_W G.1 A f H) (hS : va_S A s.heap H locs) {ls : Array Slot} (hl : lv_has ls 9 [(0, .ref b), (1, .ref (ad 0 0 0)), (2, .ref (ad 20 0 0)), (3, .ref (ad 38 0 0)), (4, .ref (ad 39 0 0)), (5, .int (nI (6 * T)))]) : W p l e room_1 s m #[Value.ref b] below meth c H locs (100 + 1177 * T) (20000 + 14000 * T) Q (F0 m 1057 ls []) := by
  obtain ⟨hx, hb, hml, hown, hts, hK, hZ, hA, hN, hX, hbl, hbA, hL⟩ := hC0
  have y0 := hR.1 _ _ _ _ t0
  refine lv_aload_n hx hb dL_law_1057 rfl (lv_at hl 1 rfl) ?_
  refine lv_aload_n hx hb dL_law_1058 rfl (lv_at hl 0 rfl) ?_
  refine lv_iload hx hb dL_law_1059 (lv_at hl 5 rfl) ?_
  refine lv_iconst (v := 1) hx hb dL_law_1061 (by decide) ?_
  refine lv_iadd hx hb dL_law_1062 ?_
  rw [show (nI (6 * T)) + 1 = nI ((6 * T) + 1) from nI_add _ _]
  refine va_sld hx hb hX hbl hbA hS (vp_in_nI (by omega) (by omega)) dL_law_1063 ?_
  rw [show (nI ((6 * T) + 1) : Int32).toNatClampNeg = (6 * T) + 1 from nI_clamp (by omega)]
  refine lv_aload_n hx hb dL_law_1064 rfl (lv_at hl 0 rfl) ?_
  refine lv_iload hx hb dL_law_1065 (lv_at hl 5 rfl) ?_
  refine lv_iconst (v := 2) hx hb dL_law_1067 (by decide) ?_
  refine lv_iadd hx hb dL_law_1068 ?_
  rw [show (nI (6 * T)) + 2 = nI ((6 * T) + 2) from nI_add _ _]
  refine va_sld hx hb hX hbl hbA hS (vp_in_nI (by omega) (by omega)) dL_law_1069 ?_
  rw [show (nI ((6 * T) + 2) : Int32).toNatClampNeg = (6 * T) + 2 from nI_clamp (by omega)]
  refine lv_aload_n hx hb dL_law_1070 rfl (lv_at hl 3 rfl) ?_
  refine mq_calli (vx_runSW (As := [.ref (ad 0 0 0), .int (xs ((6 * T) + 1)), .int (xs ((6 * T) + 2)), .ref (ad 38 0 0)]) (rest := []) ⟨hx, hb, hml, hown, hts⟩ (c_L_reviewAt l hfl G A f ad S X S Y O T (xs (6 * T + 1)) (xs (6 * T + 2))) (vx_cwSW 4 hts gL_law_L_reviewAt rfl rfl rfl (by decide +kernel) ⟨Nat.le_of_ble_eq_true rfl, Nat.le_of_ble_eq_true rfl⟩) (lq_preS hK hZ hS hA hM hN (⟨hR, hO, hT5⟩) _) rfl rfl hl.1 rfl (lv_room (Nat.le_of_ble_eq_true rfl)) dL_law_1071 ⟨by show (100 + 1177 * T) + 2 ≤ 603072; omega, by show (20000 + 14000 * T) + 12 ≤ 7194729; omega⟩) hS (fun r1071 g1071 H locs p1071 hM hS => ?_)
  refine W.widen (k := (100 + 1177 * T + 2)) (n := (20000 + 14000 * T + 12)) (by omega) (by omega) ?_
  obtain ⟨c9, v9, O9, e9, rfl, hc9, hv9, hR9⟩ := p1071
  have y20 := hR9.1 20 0 0 _ t20
  have hO9 := ok_mono hO hT5
  refine lv_istore (lv' := [(6, .int (nI c9)), (0, .ref b), (1, .ref (ad 0 0 0)), (2, .ref (ad 20 0 0)), (3, .ref (ad 38 0 0)), (4, .ref (ad 39 0 0)), (5, .int (nI (6 * T)))]) hx hb dL_law_1074 hl (by decide) rfl (fun ls hl => ?_)
  refine lv_aload_n hx hb dL_law_1076 rfl (lv_at hl 3 rfl) ?_
  refine lv_aload_n hx hb dL_law_1077 rfl (lv_at hl 1 rfl) ?_
  refine lv_iload hx hb dL_law_1078 (lv_at hl 6 rfl) ?_
  refine lv_iconst (v := 1) hx hb dL_law_1080 (by decide) ?_
  refine lv_iadd hx hb dL_law_1081 ?_
  rw [show (nI (6 * T)) + 1 = nI ((6 * T) + 1) from nI_add _ _]
  refine va_sld hx hb hX hbl hbA hS (vp_in_nI (by omega) (by omega)) dL_law_1082 ?_
  rw [show (nI ((6 * T) + 1) : Int32).toNatClampNeg = (6 * T) + 1 from nI_clamp (by omega)]
  refine lv_aload_n hx hb dL_law_1083 rfl (lv_at hl 1 rfl) ?_
  refine lv_iload hx hb dL_law_1084 (lv_at hl 6 rfl) ?_
  refine lv_iconst (v := 2) hx hb dL_law_1086 (by decide) ?_
  refine lv_iadd hx hb dL_law_1087 ?_
  rw [show (nI (6 * T)) + 2 = nI ((6 * T) + 2) from nI_add _ _]
  refine va_sld hx hb hX hbl hbA hS (vp_in_nI (by omega) (by omega)) dL_law_1088 ?_
  rw [show (nI ((6 * T) + 2) : Int32).toNatClampNeg = (6 * T) + 2 from nI_clamp (by omega)]
  refine mq_calli (va_runV (As := [.int (xs ((6 * T) + 1)), .int (xs ((6 * T) + 2))]) (rest := []) ⟨hx, hb, hml, hown, hts⟩ (c_X11_reviewAt l G A g1071 ad S X S Y O9 T (xs (6 * T + 1)) (xs (6 * T + 2))) (cwV 2 hts gL_law_X11_reviewAt rfl rfl rfl (by decide +kernel) ⟨Nat.le_of_ble_eq_true rfl, Nat.le_of_ble_eq_true rfl⟩) (mq_preV hK hZ hS hA hM (q := (RX11, TX11, 4)) y20 rfl (⟨hR9, ⟨⟨X, hO⟩, hC⟩⟩) _) rfl rfl hl.1 rfl (lv_room (Nat.le_of_ble_eq_true rfl)) dL_law_1089 ⟨by show (100 + 1177 * T + 2) + 11 ≤ 603072; omega, by show (20000 + 14000 * T + 12) + 103 ≤ 7194729; omega⟩) hS (fun r1089 g1089 H locs p1089 hM hS => ?_)
  refine W.widen (k := (100 + 1177 * T + 13)) (n := (20000 + 14000 * T + 115)) (by omega) (by omega) ?_
  obtain ⟨c8, e8, hR8⟩ := p1089
  obtain ⟨rfl, rfl⟩ := Prod.mk.inj (e9.symm.trans e8)
  have y20b := hR8.1 20 0 0 _ t20
  refine lv_istore (lv' := [(7, .int v9), (6, .int (nI c9)), (0, .ref b), (1, .ref (ad 0 0 0)), (2, .ref (ad 20 0 0)), (3, .ref (ad 38 0 0)), (4, .ref (ad 39 0 0)), (5, .int (nI (6 * T)))]) hx hb dL_law_1092 hl (by decide) rfl (fun ls hl => ?_)
  refine lv_aload_n hx hb dL_law_1094 rfl (lv_at hl 4 rfl) ?_
  refine mq_calli (va_runV (As := []) (rest := []) ⟨hx, hb, hml, hown, hts⟩ (c_X11_thrown l G A g1089 (ad 20 0 0) (yT (yThr Y (nI c9))) (nI (aD S)) (ad 21 0 0) (ad 23 0 0)) (cwV 0 hts gL_law_X11_thrown rfl rfl rfl (by decide +kernel) ⟨Nat.le_of_ble_eq_true rfl, Nat.le_of_ble_eq_true rfl⟩) (mq_preV hK hZ hS hA hM (q := (RX11, TX11, 4)) y20b rfl (y20b) _) rfl rfl hl.1 rfl (lv_room (Nat.le_of_ble_eq_true rfl)) dL_law_1095 ⟨by show (100 + 1177 * T + 13) + 0 ≤ 603072; omega, by show (20000 + 14000 * T + 115) + 0 ≤ 7194729; omega⟩) hS (fun r1095 g1095 H locs p1095 hM hS => ?_)
  refine W.widen (k := (100 + 1177 * T + 13)) (n := (20000 + 14000 * T + 115)) (by omega) (by omega) ?_
  obtain ⟨rfl, hr3⟩ := p1095
  have hr3 : r1095 = nI c9 := hr3
  subst hr3
  refine lv_iload hx hb dL_law_1098 (lv_at hl 1 rfl) ?_
  refine lv_icmp_eq (tgt := 1105) hx hb dL_law_1100 (by decide) (fun c_1100 => ?_) (fun c_1100 => (by exact absurd rfl c_1100))
  refine lv_iload hx hb dL_law_1105 (lv_at hl 1 rfl) ?_
  refine lv_if_ne (tgt := 1122) hx hb dL_law_1107 (by decide) (fun c_1107 => ?_) (fun c_1107 => ?_)
  · replace c_1107 : ¬ nI c9 = nI 0 := c_1107
    rw [nI_eq (by omega) (by omega)] at c_1107
    refine lv_goto (tgt := 1773) hx hb dL_law_1122 (by decide) ?_
    exact W.widen (by omega) (by omega) (K _ _ _ _ _ _ (hR8) (hO9) (hC) _ _ hM hS _ (lv_sub hl [2, 3, 4, 5, 6, 7] rfl))
  · replace c_1107 : nI c9 = nI 0 := c_1107
    rw [nI_eq (by omega) (by omega)] at c_1107
    have y38 := hR8.1 38 0 0 _ t38
    refine lv_aload_n hx hb dL_law_1110 rfl (lv_at hl 5 rfl) ?_
    refine lv_iconst (v := 0) hx hb dL_law_1111 (by decide) ?_
    refine mq_lald hx hb hK hM y38 (vp_in_nI (n := 0) (by decide) (by decide)) dL_law_1112 ?_
    rw [show (0 : Int32).toNatClampNeg = 0 from rfl]
    rw [show O9.1 0 = v9.toInt64 from hv9 c_1107]
    refine lv_iload hx hb dL_law_1113 (lv_at hl 0 rfl) ?_
    refine lv_i2l hx hb dL_law_1115 rfl ?_
    refine W.lcmp hx hb dL_law_1116 ?_
    refine lv_if_eq (tgt := 1122) hx hb dL_law_1117 (by decide) (fun c_1117 => ?_) (fun c_1117 => (by exact absurd ((lg_cmp_eq _ _).mpr rfl) c_1117))
    refine lv_goto (tgt := 1773) hx hb dL_law_1122 (by decide) ?_
    exact W.widen (by omega) (by omega) (K _ _ _ _ _ _ (hR8) (hO9) (hC) _ _ hM hS _ (lv_sub hl [2, 3, 4, 5, 6, 7] rfl))

set_option maxHeartbeats 4000000 in
set_option maxRecDepth 100000 in
theorem lw_case14 (l : Launch) (hfl : l.stackTraces = false) {p : Program} {e : Env} {s : State} {m : MethodId} {below : List Frame} {meth : Method} {c : Code} {b L : Nat} {xs : Nat → Int32} {G : mq_G} {A : Nat → Prop} {Q : State → Prop} (hC0 : lw_C p s m meth c b L xs G A) {f : mq_F} {ad : AD} {S : AT} {X : CX} {Y : MX} {O : OX} {T : Nat} (hR : WR G f ad S X S Y O) (hO : cOK S X T) (hC : mCp S Y) (hT5 : T < 512) (hTL : 6 * T + 6 ≤ L) (K : lw_K p l e s m below meth c b G A Q T) {H : Heap} {locs : List Loc} (hM : mq_W G.1 A f H) (hS : va_S A s.heap H locs) {ls : Array Slot} (hl : lv_has ls 9 [(0, .ref b), (1, .ref (ad 0 0 0)), (2, .ref (ad 20 0 0)), (3, .ref (ad 38 0 0)), (4, .ref (ad 39 0 0)), (5, .int (nI (6 * T)))]) : W p l e room_1 s m #[Value.ref b] below meth c H locs (100 + 1177 * T) (20000 + 14000 * T) Q (F0 m 1125 ls []) := by
  obtain ⟨hx, hb, hml, hown, hts, hK, hZ, hA, hN, hX, hbl, hbA, hL⟩ := hC0
  have y0 := hR.1 _ _ _ _ t0
  refine lv_aload_n hx hb dL_law_1125 rfl (lv_at hl 1 rfl) ?_
  refine lv_aload_n hx hb dL_law_1126 rfl (lv_at hl 0 rfl) ?_
  refine lv_iload hx hb dL_law_1127 (lv_at hl 5 rfl) ?_
  refine lv_iconst (v := 1) hx hb dL_law_1129 (by decide) ?_
  refine lv_iadd hx hb dL_law_1130 ?_
  rw [show (nI (6 * T)) + 1 = nI ((6 * T) + 1) from nI_add _ _]
  refine va_sld hx hb hX hbl hbA hS (vp_in_nI (by omega) (by omega)) dL_law_1131 ?_
  rw [show (nI ((6 * T) + 1) : Int32).toNatClampNeg = (6 * T) + 1 from nI_clamp (by omega)]
  refine lv_aload_n hx hb dL_law_1132 rfl (lv_at hl 3 rfl) ?_
  refine mq_calli (vx_runSW (As := [.ref (ad 0 0 0), .int (xs ((6 * T) + 1)), .ref (ad 38 0 0)]) (rest := []) ⟨hx, hb, hml, hown, hts⟩ (c_L_choose l hfl G A f ad S X S Y O T (xs (6 * T + 1))) (vx_cwSW 3 hts gL_law_L_choose rfl rfl rfl (by decide +kernel) ⟨Nat.le_of_ble_eq_true rfl, Nat.le_of_ble_eq_true rfl⟩) (lq_preS hK hZ hS hA hM hN (⟨hR, hO, hT5⟩) _) rfl rfl hl.1 rfl (lv_room (Nat.le_of_ble_eq_true rfl)) dL_law_1133 ⟨by show (100 + 1177 * T) + 2 ≤ 603072; omega, by show (20000 + 14000 * T) + 12 ≤ 7194729; omega⟩) hS (fun r1133 g1133 H locs p1133 hM hS => ?_)
  refine W.widen (k := (100 + 1177 * T + 2)) (n := (20000 + 14000 * T + 12)) (by omega) (by omega) ?_
  obtain ⟨c9, v9, O9, e9, rfl, hc9, hv9, hR9⟩ := p1133
  have y20 := hR9.1 20 0 0 _ t20
  have hO9 := ok_mono hO hT5
  refine lv_istore (lv' := [(6, .int (nI c9)), (0, .ref b), (1, .ref (ad 0 0 0)), (2, .ref (ad 20 0 0)), (3, .ref (ad 38 0 0)), (4, .ref (ad 39 0 0)), (5, .int (nI (6 * T)))]) hx hb dL_law_1136 hl (by decide) rfl (fun ls hl => ?_)
  refine lv_aload_n hx hb dL_law_1138 rfl (lv_at hl 3 rfl) ?_
  refine lv_aload_n hx hb dL_law_1139 rfl (lv_at hl 1 rfl) ?_
  refine lv_iload hx hb dL_law_1140 (lv_at hl 6 rfl) ?_
  refine lv_iconst (v := 1) hx hb dL_law_1142 (by decide) ?_
  refine lv_iadd hx hb dL_law_1143 ?_
  rw [show (nI (6 * T)) + 1 = nI ((6 * T) + 1) from nI_add _ _]
  refine va_sld hx hb hX hbl hbA hS (vp_in_nI (by omega) (by omega)) dL_law_1144 ?_
  rw [show (nI ((6 * T) + 1) : Int32).toNatClampNeg = (6 * T) + 1 from nI_clamp (by omega)]
  refine mq_calli (va_runV (As := [.int (xs ((6 * T) + 1))]) (rest := []) ⟨hx, hb, hml, hown, hts⟩ (c_X11_choose l G A g1133 ad S X S Y O9 T (xs (6 * T + 1))) (cwV 1 hts gL_law_X11_choose rfl rfl rfl (by decide +kernel) ⟨Nat.le_of_ble_eq_true rfl, Nat.le_of_ble_eq_true rfl⟩) (mq_preV hK hZ hS hA hM (q := (RX11, TX11, 4)) y20 rfl (⟨hR9, ⟨⟨X, hO⟩, hC⟩⟩) _) rfl rfl hl.1 rfl (lv_room (Nat.le_of_ble_eq_true rfl)) dL_law_1145 ⟨by show (100 + 1177 * T + 2) + 12 ≤ 603072; omega, by show (20000 + 14000 * T + 12) + 107 ≤ 7194729; omega⟩) hS (fun r1145 g1145 H locs p1145 hM hS => ?_)
  refine W.widen (k := (100 + 1177 * T + 14)) (n := (20000 + 14000 * T + 119)) (by omega) (by omega) ?_
  obtain ⟨c8, e8, hR8⟩ := p1145
  obtain ⟨rfl, rfl⟩ := Prod.mk.inj (e9.symm.trans e8)
  have y20b := hR8.1 20 0 0 _ t20
  refine lv_istore (lv' := [(7, .int v9), (6, .int (nI c9)), (0, .ref b), (1, .ref (ad 0 0 0)), (2, .ref (ad 20 0 0)), (3, .ref (ad 38 0 0)), (4, .ref (ad 39 0 0)), (5, .int (nI (6 * T)))]) hx hb dL_law_1148 hl (by decide) rfl (fun ls hl => ?_)
  refine lv_aload_n hx hb dL_law_1150 rfl (lv_at hl 4 rfl) ?_
  refine mq_calli (va_runV (As := []) (rest := []) ⟨hx, hb, hml, hown, hts⟩ (c_X11_thrown l G A g1145 (ad 20 0 0) (yT (yThr Y (nI c9))) (nI (aD S)) (ad 21 0 0) (ad 23 0 0)) (cwV 0 hts gL_law_X11_thrown rfl rfl rfl (by decide +kernel) ⟨Nat.le_of_ble_eq_true rfl, Nat.le_of_ble_eq_true rfl⟩) (mq_preV hK hZ hS hA hM (q := (RX11, TX11, 4)) y20b rfl (y20b) _) rfl rfl hl.1 rfl (lv_room (Nat.le_of_ble_eq_true rfl)) dL_law_1151 ⟨by show (100 + 1177 * T + 14) + 0 ≤ 603072; omega, by show (20000 + 14000 * T + 119) + 0 ≤ 7194729; omega⟩) hS (fun r1151 g1151 H locs p1151 hM hS => ?_)
  refine W.widen (k := (100 + 1177 * T + 14)) (n := (20000 + 14000 * T + 119)) (by omega) (by omega) ?_
  obtain ⟨rfl, hr3⟩ := p1151
  have hr3 : r1151 = nI c9 := hr3
  subst hr3
  refine lv_iload hx hb dL_law_1154 (lv_at hl 1 rfl) ?_
  refine lv_icmp_eq (tgt := 1161) hx hb dL_law_1156 (by decide) (fun c_1156 => ?_) (fun c_1156 => (by exact absurd rfl c_1156))
  refine lv_iload hx hb dL_law_1161 (lv_at hl 1 rfl) ?_
  refine lv_if_ne (tgt := 1178) hx hb dL_law_1163 (by decide) (fun c_1163 => ?_) (fun c_1163 => ?_)
  · replace c_1163 : ¬ nI c9 = nI 0 := c_1163
    rw [nI_eq (by omega) (by omega)] at c_1163
    refine lv_goto (tgt := 1773) hx hb dL_law_1178 (by decide) ?_
    exact W.widen (by omega) (by omega) (K _ _ _ _ _ _ (hR8) (hO9) (hC) _ _ hM hS _ (lv_sub hl [2, 3, 4, 5, 6, 7] rfl))
  · replace c_1163 : nI c9 = nI 0 := c_1163
    rw [nI_eq (by omega) (by omega)] at c_1163
    have y38 := hR8.1 38 0 0 _ t38
    refine lv_aload_n hx hb dL_law_1166 rfl (lv_at hl 5 rfl) ?_
    refine lv_iconst (v := 0) hx hb dL_law_1167 (by decide) ?_
    refine mq_lald hx hb hK hM y38 (vp_in_nI (n := 0) (by decide) (by decide)) dL_law_1168 ?_
    rw [show (0 : Int32).toNatClampNeg = 0 from rfl]
    rw [show O9.1 0 = v9.toInt64 from hv9 c_1163]
    refine lv_iload hx hb dL_law_1169 (lv_at hl 0 rfl) ?_
    refine lv_i2l hx hb dL_law_1171 rfl ?_
    refine W.lcmp hx hb dL_law_1172 ?_
    refine lv_if_eq (tgt := 1178) hx hb dL_law_1173 (by decide) (fun c_1173 => ?_) (fun c_1173 => (by exact absurd ((lg_cmp_eq _ _).mpr rfl) c_1173))
    refine lv_goto (tgt := 1773) hx hb dL_law_1178 (by decide) ?_
    exact W.widen (by omega) (by omega) (K _ _ _ _ _ _ (hR8) (hO9) (hC) _ _ hM hS _ (lv_sub hl [2, 3, 4, 5, 6, 7] rfl))
