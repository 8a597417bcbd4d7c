/-! THE LAW'S CALLS, one theorem for each road of the switch -/
theorem xl_f0 (f : Nat → Int64) (v : Int64) : vp_updL f 0 v ((0 : Int32).toNatClampNeg) = v := rfl
section LAW
variable {p : Program} {l : Launch} {e : Env} {s : State} {m : MethodId} {below : List Frame} {meth : Method} {c : Code} {D : va_G} {b L : Nat} {xs : Nat → Int32} {A A2 : Nat → Nat} {K K2 : Nat → ClassId} {ob : Nat} {kO : ClassId} {sa : Nat → Nat}
variable {n : Nat} {V TV TO : Nat → Bool} {AG OP NX : Nat → Nat} {TK T th i : Nat} {f : Nat → Int64} {H : Heap} {locs : List Loc} {ls : Array Slot}
set_option maxHeartbeats 4000000 in
set_option maxRecDepth 100000 in
/-- next, answered -/
theorem l_next_ok (C : xL_C p l s m meth c D b L xs K kO K2 sa) (hT : T ≤ 600) (hi : i + 2 < L) (hL : L ≤ 1537) (hI : xI n V TV TO AG OP NX TK T) (hW : xL_S s D (xL_W A K n V TV TO AG OP NX TK ob kO f A2 K2 th) H locs) (hl : lv_has ls 7 [(0, .ref b), (1, .ref (A 0)), (2, .ref (A2 0)), (3, .ref ob), (4, .int (nI i))]) (kk : xL_K p l e s m below meth c D b A K A2 K2 ob kO n T i) (q : Nat) (hq : q < 6) (e1 : xs (nI (i + 1)).toNatClampNeg = nI q) : W p l e room_1 s m #[Value.ref b] below meth c H locs (14 + T) (4900 + 6 * T) (lw_Z below #[Value.ref b] s) (F0 m 156 ls []) := by
  obtain ⟨⟨hx, hb, hr, hml, hown, hts, hX, hbl, hlocks, hgv⟩, hK, hXS, hl0, ht⟩ := C
  have hbA : ¬ (fun q : Nat => s.heap.size ≤ q) b := Nat.not_le.mpr hbl
  have hn : n ≤ 128 := hI.2.1
  have hKh : va_K D xcl (xc_T K ++ [(kO, .long)]) s := hK.sub [0, 1, 2, 3, 4, 5] rfl
  have hKc : va_K D xcl (xc_T K) s := hK.sub [0, 1, 2, 3, 4] rfl
  have hKm : va_K D xcl (xm_T K2) s := hK.sub [6, 7, 8, 9, 10, 11] rfl
  have in1 : vp_in (nI (i + 1)) L := vp_in_nI (by omega) (by omega)
  have in2 : vp_in (nI (i + 2)) L := vp_in_nI (by omega) (by omega)
  have hW : xL_S s D ((xc_W A K n (xmk V) (xmk TV) AG (xzk TO OP) (xbk OP NX) TK ++ xo_W ob kO f) ++ xm_W A2 K2 th n V TV TO AG OP NX TK) H locs := hW
  refine lv_aload_n hx hb dL_law_156 rfl (lv_at hl 1 rfl) ?_
  refine lv_aload_n hx hb dL_law_157 rfl (lv_at hl 0 rfl) ?_
  refine lv_iload hx hb dL_law_158 (lv_at hl 4 rfl) ?_
  refine lv_iconst (v := 1) hx hb dL_law_160 (by decide) ?_
  refine lv_iadd hx hb dL_law_161 ?_
  refine xa_top (y := nI (i + 1)) (nI_add i 1) ?_
  refine va_sld hx hb hX hbl hbA hW.2.2 in1 dL_law_162 ?_
  refine xa_top (y := nI q) e1 ?_
  refine lv_aload_n hx hb dL_law_163 rfl (lv_at hl 3 rfl) ?_
  refine xl_L (ws := xc_W A K n (xmk V) (xmk TV) AG (xzk TO OP) (xbk OP NX) TK ++ xo_W ob kO f) (ws' := xc_W A K n (xmk V) (xmk TV) AG (xzk TO OP) (xbk OP NX) TK ++ xo_W ob kO (vp_updL f 0 ((nI (xbk OP NX q)).toInt64))) (wr := xm_W A2 K2 th n V TV TO AG OP NX TK) (vx_runSW (As := [.ref (A 0), .int (nI q), .ref ob]) (rest := []) ⟨hx, hb, hml, hown, ht⟩ (h_next_ok l D A K n (xmk V) (xmk TV) AG (xzk TO OP) (xbk OP NX) TK q hq ob kO f H.size) (vx_cwSW 3 ht (xg_SH kml_RL_51 kst_yL_next kin_RL kco_yL_next) rfl rfl rfl (by decide +kernel) ⟨Nat.le_of_ble_eq_true rfl, Nat.le_of_ble_eq_true rfl⟩) (xk_preM (xP_l hW.1) hKh (xD_l hW.2.1)) rfl rfl hl.1 rfl (lv_room (Nat.le_of_ble_eq_true rfl)) dL_law_164 ⟨by show 14 + T + 0 ≤ 601024; omega, by show 4900 + 6 * T + 0 ≤ 7293000; omega⟩) rfl hW (fun v9 H locs e9 hW => ?_)
  subst e9
  refine W.widen (k := 14 + (T + 1)) (n := 4900 + 6 * (T + 1)) (by omega) (by omega) ?_
  refine lv_istore (lv' := [(5, .int 0), (0, .ref b), (1, .ref (A 0)), (2, .ref (A2 0)), (3, .ref ob), (4, .int (nI i))]) hx hb dL_law_167 hl (by decide) rfl (fun ls hl => ?_)
  refine lv_aload_n hx hb dL_law_169 rfl (lv_at hl 3 rfl) ?_
  refine lv_aload_n hx hb dL_law_170 rfl (lv_at hl 1 rfl) ?_
  refine lv_iload hx hb dL_law_171 (lv_at hl 5 rfl) ?_
  refine lv_iconst (v := 1) hx hb dL_law_173 (by decide) ?_
  refine lv_iadd hx hb dL_law_174 ?_
  refine xa_top (y := nI (i + 1)) (nI_add i 1) ?_
  refine va_sld hx hb hX hbl hbA hW.2.2 in1 dL_law_175 ?_
  refine xa_top (y := nI q) e1 ?_
  refine xl_R (ws := xm_W A2 K2 th n V TV TO AG OP NX TK) (ws' := xm_W A2 K2 0 n V TV TO AG OP NX TK) (wr := xc_W A K n (xmk V) (xmk TV) AG (xzk TO OP) (xbk OP NX) TK ++ xo_W ob kO (vp_updL f 0 ((nI (xbk OP NX q)).toInt64))) (va_runV (As := [.int (nI q)]) (rest := []) ⟨hx, hb, hml, hown, ht⟩ (m_next_ok l D A2 K2 th n V TV TO AG OP NX TK q hq H.size) (cwV 1 ht (xg_V kml_RL_53 kim_yX1_next ksl_yX1_next kin_RX1 kco_yX1_next) rfl rfl rfl (by decide +kernel) ⟨Nat.le_of_ble_eq_true rfl, Nat.le_of_ble_eq_true rfl⟩) (xk_preMV (xP_r hW.1) hKm (xD_r hW.2.1) rfl rfl) rfl rfl hl.1 rfl (lv_room (Nat.le_of_ble_eq_true rfl)) dL_law_176 ⟨by show 14 + (T + 1) + 0 ≤ 601024; omega, by show 4900 + 6 * (T + 1) + 0 ≤ 7293000; omega⟩) rfl hW (fun v9 H locs e9 hW => ?_)
  subst e9
  refine W.widen (k := 14 + (T + 1)) (n := 4900 + 6 * (T + 1)) (by omega) (by omega) ?_
  refine lv_istore (lv' := [(6, .int (nI (96 + 16 * OP q + NX q))), (5, .int 0), (0, .ref b), (1, .ref (A 0)), (2, .ref (A2 0)), (3, .ref ob), (4, .int (nI i))]) hx hb dL_law_179 hl (by decide) rfl (fun ls hl => ?_)
  refine lv_aload_n hx hb dL_law_181 rfl (lv_at hl 4 rfl) ?_
  refine xr_V (n := 0) (As := []) (rest := []) ⟨hx, hb, hml, hown, ht⟩ (m_thrown l D A2 K2 0 n V TV TO AG OP NX TK) (xg_V kml_RL_47 kim_yX1_thrown ksl_yX1_thrown kin_RX1 kco_yX1_thrown) ⟨rfl, rfl⟩ (by decide +kernel) ⟨Nat.le_of_ble_eq_true rfl, Nat.le_of_ble_eq_true rfl⟩ (xk_preV (xP_r hW.1) hKm rfl rfl) rfl hl.1 rfl (Nat.le_of_ble_eq_true rfl) dL_law_182 ⟨by show 14 + (T + 1) ≤ 601024; omega, by show 4900 + 6 * (T + 1) ≤ 7293000; omega⟩ (fun r8 e8 => ?_)
  subst e8
  refine lv_iload hx hb dL_law_185 (lv_at hl 1 rfl) ?_
  refine lv_icmp_eq (tgt := 192) hx hb dL_law_187 (by decide) (fun _ => ?_) (fun h => by first | exact absurd h (by decide) | exact absurd (by decide) h)
  refine lv_iload hx hb dL_law_192 (lv_at hl 1 rfl) ?_
  refine lv_if_ne (tgt := 209) hx hb dL_law_194 (by decide) (fun h => by first | exact absurd h (by decide) | exact absurd (by decide) h) (fun _ => ?_)
  refine lv_aload_n hx hb dL_law_197 rfl (lv_at hl 5 rfl) ?_
  refine lv_iconst (v := 0) hx hb dL_law_198 (by decide) ?_
  refine va_lald hx hb hKh (xP_l hW.1) 6 5 rfl rfl (i := 0) (vp_in_nI (n := 0) (by decide) (by decide)) dL_law_199 ?_
  refine lv_iload hx hb dL_law_200 (lv_at hl 0 rfl) ?_
  refine lv_i2l hx hb dL_law_202 rfl ?_
  refine W.lcmp hx hb dL_law_203 ?_
  refine lv_if_eq (tgt := 209) hx hb dL_law_204 (by decide) (fun _ => ?_) (fun h => absurd (by rw [xl_f0, (hI.blk q hq).1]; exact xl_cmp _) h)
  refine lv_goto (tgt := 459) hx hb dL_law_209 (by decide) ?_
  have hW : xL_S s D (xL_W A K n V TV TO AG OP NX TK ob kO (vp_updL f 0 ((nI (xbk OP NX q)).toInt64)) A2 K2 0) H locs := by exact hW
  exact kk _ _ _ _ _ _ _ _ _ _ _ ls (hI.more) hW (lv_sub hl [2, 3, 4, 5, 6] rfl)

set_option maxHeartbeats 4000000 in
set_option maxRecDepth 100000 in
/-- next, refused -/
theorem l_next_bad (C : xL_C p l s m meth c D b L xs K kO K2 sa) (hT : T ≤ 600) (hi : i + 2 < L) (hL : L ≤ 1537) (hI : xI n V TV TO AG OP NX TK T) (hW : xL_S s D (xL_W A K n V TV TO AG OP NX TK ob kO f A2 K2 th) H locs) (hl : lv_has ls 7 [(0, .ref b), (1, .ref (A 0)), (2, .ref (A2 0)), (3, .ref ob), (4, .int (nI i))]) (kk : xL_K p l e s m below meth c D b A K A2 K2 ob kO n T i) (x : Int32) (e1 : xs (nI (i + 1)).toNatClampNeg = x) (hbad : ¬ ∃ j : Nat, j < 6 ∧ x = nI j) : W p l e room_1 s m #[Value.ref b] below meth c H locs (14 + T) (4900 + 6 * T) (lw_Z below #[Value.ref b] s) (F0 m 156 ls []) := by
  obtain ⟨⟨hx, hb, hr, hml, hown, hts, hX, hbl, hlocks, hgv⟩, hK, hXS, hl0, ht⟩ := C
  have hbA : ¬ (fun q : Nat => s.heap.size ≤ q) b := Nat.not_le.mpr hbl
  have hn : n ≤ 128 := hI.2.1
  have hKh : va_K D xcl (xc_T K ++ [(kO, .long)]) s := hK.sub [0, 1, 2, 3, 4, 5] rfl
  have hKc : va_K D xcl (xc_T K) s := hK.sub [0, 1, 2, 3, 4] rfl
  have hKm : va_K D xcl (xm_T K2) s := hK.sub [6, 7, 8, 9, 10, 11] rfl
  have in1 : vp_in (nI (i + 1)) L := vp_in_nI (by omega) (by omega)
  have in2 : vp_in (nI (i + 2)) L := vp_in_nI (by omega) (by omega)
  have hW : xL_S s D ((xc_W A K n (xmk V) (xmk TV) AG (xzk TO OP) (xbk OP NX) TK ++ xo_W ob kO f) ++ xm_W A2 K2 th n V TV TO AG OP NX TK) H locs := hW
  refine lv_aload_n hx hb dL_law_156 rfl (lv_at hl 1 rfl) ?_
  refine lv_aload_n hx hb dL_law_157 rfl (lv_at hl 0 rfl) ?_
  refine lv_iload hx hb dL_law_158 (lv_at hl 4 rfl) ?_
  refine lv_iconst (v := 1) hx hb dL_law_160 (by decide) ?_
  refine lv_iadd hx hb dL_law_161 ?_
  refine xa_top (y := nI (i + 1)) (nI_add i 1) ?_
  refine va_sld hx hb hX hbl hbA hW.2.2 in1 dL_law_162 ?_
  refine xa_top (y := x) e1 ?_
  refine lv_aload_n hx hb dL_law_163 rfl (lv_at hl 3 rfl) ?_
  refine xl_L (ws := xc_W A K n (xmk V) (xmk TV) AG (xzk TO OP) (xbk OP NX) TK ++ xo_W ob kO f) (ws' := xc_W A K n (xmk V) (xmk TV) AG (xzk TO OP) (xbk OP NX) TK ++ xo_W ob kO f) (wr := xm_W A2 K2 th n V TV TO AG OP NX TK) (vx_runSW (As := [.ref (A 0), .int x, .ref ob]) (rest := []) ⟨hx, hb, hml, hown, ht⟩ (h_next_bad l D A K n (xmk V) (xmk TV) AG (xzk TO OP) (xbk OP NX) TK x hbad ob kO f H.size s.heap.size sa hl0) (vx_cwSW 3 ht (xg_SH kml_RL_51 kst_yL_next kin_RL kco_yL_next) rfl rfl rfl (by decide +kernel) ⟨Nat.le_of_ble_eq_true rfl, Nat.le_of_ble_eq_true rfl⟩) (xk_preMX (xP_l hW.1) hKh (xD_l hW.2.1) hXS (xl_kept hW)) rfl rfl hl.1 rfl (lv_room (Nat.le_of_ble_eq_true rfl)) dL_law_164 ⟨by show 14 + T + 1 ≤ 601024; omega, by show 4900 + 6 * T + 6 ≤ 7293000; omega⟩) rfl hW (fun v9 H locs e9 hW => ?_)
  subst e9
  refine W.widen (k := 14 + (T + 1)) (n := 4900 + 6 * (T + 1)) (by omega) (by omega) ?_
  refine lv_istore (lv' := [(5, .int 1), (0, .ref b), (1, .ref (A 0)), (2, .ref (A2 0)), (3, .ref ob), (4, .int (nI i))]) hx hb dL_law_167 hl (by decide) rfl (fun ls hl => ?_)
  refine lv_aload_n hx hb dL_law_169 rfl (lv_at hl 3 rfl) ?_
  refine lv_aload_n hx hb dL_law_170 rfl (lv_at hl 1 rfl) ?_
  refine lv_iload hx hb dL_law_171 (lv_at hl 5 rfl) ?_
  refine lv_iconst (v := 1) hx hb dL_law_173 (by decide) ?_
  refine lv_iadd hx hb dL_law_174 ?_
  refine xa_top (y := nI (i + 1)) (nI_add i 1) ?_
  refine va_sld hx hb hX hbl hbA hW.2.2 in1 dL_law_175 ?_
  refine xa_top (y := x) e1 ?_
  refine xl_R (ws := xm_W A2 K2 th n V TV TO AG OP NX TK) (ws' := xm_W A2 K2 1 n V TV TO AG OP NX TK) (wr := xc_W A K n (xmk V) (xmk TV) AG (xzk TO OP) (xbk OP NX) TK ++ xo_W ob kO f) (va_runV (As := [.int x]) (rest := []) ⟨hx, hb, hml, hown, ht⟩ (m_next_bad l D A2 K2 th n V TV TO AG OP NX TK x hbad H.size) (cwV 1 ht (xg_V kml_RL_53 kim_yX1_next ksl_yX1_next kin_RX1 kco_yX1_next) rfl rfl rfl (by decide +kernel) ⟨Nat.le_of_ble_eq_true rfl, Nat.le_of_ble_eq_true rfl⟩) (xk_preMV (xP_r hW.1) hKm (xD_r hW.2.1) rfl rfl) rfl rfl hl.1 rfl (lv_room (Nat.le_of_ble_eq_true rfl)) dL_law_176 ⟨by show 14 + (T + 1) + 0 ≤ 601024; omega, by show 4900 + 6 * (T + 1) + 0 ≤ 7293000; omega⟩) rfl hW (fun v9 H locs e9 hW => ?_)
  obtain ⟨r9, e9⟩ := e9
  subst e9
  refine W.widen (k := 14 + (T + 1)) (n := 4900 + 6 * (T + 1)) (by omega) (by omega) ?_
  refine lv_istore (lv' := [(6, .int r9), (5, .int 1), (0, .ref b), (1, .ref (A 0)), (2, .ref (A2 0)), (3, .ref ob), (4, .int (nI i))]) hx hb dL_law_179 hl (by decide) rfl (fun ls hl => ?_)
  refine lv_aload_n hx hb dL_law_181 rfl (lv_at hl 4 rfl) ?_
  refine xr_V (n := 0) (As := []) (rest := []) ⟨hx, hb, hml, hown, ht⟩ (m_thrown l D A2 K2 1 n V TV TO AG OP NX TK) (xg_V kml_RL_47 kim_yX1_thrown ksl_yX1_thrown kin_RX1 kco_yX1_thrown) ⟨rfl, rfl⟩ (by decide +kernel) ⟨Nat.le_of_ble_eq_true rfl, Nat.le_of_ble_eq_true rfl⟩ (xk_preV (xP_r hW.1) hKm rfl rfl) rfl hl.1 rfl (Nat.le_of_ble_eq_true rfl) dL_law_182 ⟨by show 14 + (T + 1) ≤ 601024; omega, by show 4900 + 6 * (T + 1) ≤ 7293000; omega⟩ (fun r8 e8 => ?_)
  subst e8
  refine lv_iload hx hb dL_law_185 (lv_at hl 1 rfl) ?_
  refine lv_icmp_eq (tgt := 192) hx hb dL_law_187 (by decide) (fun _ => ?_) (fun h => by first | exact absurd h (by decide) | exact absurd (by decide) h)
  refine lv_iload hx hb dL_law_192 (lv_at hl 1 rfl) ?_
  refine lv_if_ne (tgt := 209) hx hb dL_law_194 (by decide) (fun _ => ?_) (fun h => by first | exact absurd h (by decide) | exact absurd (by decide) h)
  refine lv_goto (tgt := 459) hx hb dL_law_209 (by decide) ?_
  have hW : xL_S s D (xL_W A K n V TV TO AG OP NX TK ob kO f A2 K2 1) H locs := by exact hW
  exact kk _ _ _ _ _ _ _ _ _ _ _ ls (hI.more) hW (lv_sub hl [2, 3, 4, 5, 6] rfl)

set_option maxHeartbeats 4000000 in
set_option maxRecDepth 100000 in
/-- drop -/
theorem l_drop_ok (C : xL_C p l s m meth c D b L xs K kO K2 sa) (hT : T ≤ 600) (hi : i + 2 < L) (hL : L ≤ 1537) (hI : xI n V TV TO AG OP NX TK T) (hW : xL_S s D (xL_W A K n V TV TO AG OP NX TK ob kO f A2 K2 th) H locs) (hl : lv_has ls 7 [(0, .ref b), (1, .ref (A 0)), (2, .ref (A2 0)), (3, .ref ob), (4, .int (nI i))]) (kk : xL_K p l e s m below meth c D b A K A2 K2 ob kO n T i) (j k : Nat) (hj : j < n) (hk : k < 16) (e1 : xs (nI (i + 1)).toNatClampNeg = nI (96 + 16 * j + k)) (hs : V (16 * j + k) = true) : W p l e room_1 s m #[Value.ref b] below meth c H locs (14 + T) (4900 + 6 * T) (lw_Z below #[Value.ref b] s) (F0 m 212 ls []) := by
  obtain ⟨⟨hx, hb, hr, hml, hown, hts, hX, hbl, hlocks, hgv⟩, hK, hXS, hl0, ht⟩ := C
  have hbA : ¬ (fun q : Nat => s.heap.size ≤ q) b := Nat.not_le.mpr hbl
  have hn : n ≤ 128 := hI.2.1
  have hKh : va_K D xcl (xc_T K ++ [(kO, .long)]) s := hK.sub [0, 1, 2, 3, 4, 5] rfl
  have hKc : va_K D xcl (xc_T K) s := hK.sub [0, 1, 2, 3, 4] rfl
  have hKm : va_K D xcl (xm_T K2) s := hK.sub [6, 7, 8, 9, 10, 11] rfl
  have in1 : vp_in (nI (i + 1)) L := vp_in_nI (by omega) (by omega)
  have in2 : vp_in (nI (i + 2)) L := vp_in_nI (by omega) (by omega)
  have hW : xL_S s D ((xc_W A K n (xmk V) (xmk TV) AG (xzk TO OP) (xbk OP NX) TK ++ xo_W ob kO f) ++ xm_W A2 K2 th n V TV TO AG OP NX TK) H locs := hW
  refine lv_aload_n hx hb dL_law_212 rfl (lv_at hl 1 rfl) ?_
  refine lv_aload_n hx hb dL_law_213 rfl (lv_at hl 0 rfl) ?_
  refine lv_iload hx hb dL_law_214 (lv_at hl 4 rfl) ?_
  refine lv_iconst (v := 1) hx hb dL_law_216 (by decide) ?_
  refine lv_iadd hx hb dL_law_217 ?_
  refine xa_top (y := nI (i + 1)) (nI_add i 1) ?_
  refine va_sld hx hb hX hbl hbA hW.2.2 in1 dL_law_218 ?_
  refine xa_top (y := nI (96 + 16 * j + k)) e1 ?_
  refine xl_L (ws := xc_W A K n (xmk V) (xmk TV) AG (xzk TO OP) (xbk OP NX) TK ++ xo_W ob kO f) (ws' := xc_W A K n (va_up (xmk V) j (xmk V j &&& (65535 ^^^ 2 ^ k))) (xmk TV) AG (xzk TO OP) (xbk OP NX) TK ++ xo_W ob kO f) (wr := xm_W A2 K2 th n V TV TO AG OP NX TK) (vx_runSW (As := [.ref (A 0), .int (nI (96 + 16 * j + k))]) (rest := []) ⟨hx, hb, hml, hown, ht⟩ (h_drop_ok l D A K n (xmk V) (xmk TV) AG (xzk TO OP) (xbk OP NX) TK hn (fun j => xmk_lt V j) (fun j => xmk_lt TV j) j k hj hk ((xmk_bit' V j k hk).trans hs) ob kO f H.size) (vx_cwSW 2 ht (xg_SH kml_RL_54 kst_yL_drop kin_RL kco_yL_drop) rfl rfl rfl (by decide +kernel) ⟨Nat.le_of_ble_eq_true rfl, Nat.le_of_ble_eq_true rfl⟩) (xk_preM (xP_l hW.1) hKh (xD_l hW.2.1)) rfl rfl hl.1 rfl (lv_room (Nat.le_of_ble_eq_true rfl)) dL_law_219 ⟨by show 14 + T + 0 ≤ 601024; omega, by show 4900 + 6 * T + 0 ≤ 7293000; omega⟩) rfl hW (fun v9 H locs e9 hW => ?_)
  subst e9
  refine W.widen (k := 14 + (T + 1)) (n := 4900 + 6 * (T + 1)) (by omega) (by omega) ?_
  refine lv_istore (lv' := [(5, .int 0), (0, .ref b), (1, .ref (A 0)), (2, .ref (A2 0)), (3, .ref ob), (4, .int (nI i))]) hx hb dL_law_222 hl (by decide) rfl (fun ls hl => ?_)
  refine lv_aload_n hx hb dL_law_224 rfl (lv_at hl 3 rfl) ?_
  refine lv_aload_n hx hb dL_law_225 rfl (lv_at hl 1 rfl) ?_
  refine lv_iload hx hb dL_law_226 (lv_at hl 5 rfl) ?_
  refine lv_iconst (v := 1) hx hb dL_law_228 (by decide) ?_
  refine lv_iadd hx hb dL_law_229 ?_
  refine xa_top (y := nI (i + 1)) (nI_add i 1) ?_
  refine va_sld hx hb hX hbl hbA hW.2.2 in1 dL_law_230 ?_
  refine xa_top (y := nI (96 + 16 * j + k)) e1 ?_
  refine xl_R (ws := xm_W A2 K2 th n V TV TO AG OP NX TK) (ws' := xm_W A2 K2 0 n (va_up V (16 * j + k) false) TV TO AG OP NX TK) (wr := xc_W A K n (va_up (xmk V) j (xmk V j &&& (65535 ^^^ 2 ^ k))) (xmk TV) AG (xzk TO OP) (xbk OP NX) TK ++ xo_W ob kO f) (va_runV (As := [.int (nI (96 + 16 * j + k))]) (rest := []) ⟨hx, hb, hml, hown, ht⟩ (m_drop_ok l D A2 K2 th n V TV TO AG OP NX TK hn j k hj hk hs H.size) (cwV 1 ht (xg_V kml_RL_57 kim_yX1_drop ksl_yX1_drop kin_RX1 kco_yX1_drop) rfl rfl rfl (by decide +kernel) ⟨Nat.le_of_ble_eq_true rfl, Nat.le_of_ble_eq_true rfl⟩) (xk_preMV (xP_r hW.1) hKm (xD_r hW.2.1) rfl rfl) rfl rfl hl.1 rfl (lv_room (Nat.le_of_ble_eq_true rfl)) dL_law_231 ⟨by show 14 + (T + 1) + 0 ≤ 601024; omega, by show 4900 + 6 * (T + 1) + 0 ≤ 7293000; omega⟩) rfl hW (fun v9 H locs e9 hW => ?_)
  subst e9
  refine W.widen (k := 14 + (T + 1)) (n := 4900 + 6 * (T + 1)) (by omega) (by omega) ?_
  refine lv_aload_n hx hb dL_law_234 rfl (lv_at hl 3 rfl) ?_
  refine xr_V (n := 0) (As := []) (rest := []) ⟨hx, hb, hml, hown, ht⟩ (m_thrown l D A2 K2 0 n (va_up V (16 * j + k) false) TV TO AG OP NX TK) (xg_V kml_RL_47 kim_yX1_thrown ksl_yX1_thrown kin_RX1 kco_yX1_thrown) ⟨rfl, rfl⟩ (by decide +kernel) ⟨Nat.le_of_ble_eq_true rfl, Nat.le_of_ble_eq_true rfl⟩ (xk_preV (xP_r hW.1) hKm rfl rfl) rfl hl.1 rfl (Nat.le_of_ble_eq_true rfl) dL_law_235 ⟨by show 14 + (T + 1) ≤ 601024; omega, by show 4900 + 6 * (T + 1) ≤ 7293000; omega⟩ (fun r8 e8 => ?_)
  subst e8
  refine lv_iload hx hb dL_law_238 (lv_at hl 0 rfl) ?_
  refine lv_icmp_eq (tgt := 245) hx hb dL_law_240 (by decide) (fun _ => ?_) (fun h => by first | exact absurd h (by decide) | exact absurd (by decide) h)
  refine lv_goto (tgt := 459) hx hb dL_law_245 (by decide) ?_
  have hW : xL_S s D (xL_W A K n (va_up V (16 * j + k) false) TV TO AG OP NX TK ob kO f A2 K2 0) H locs := by rw [xmk_clr V j k hk] at hW; exact hW
  exact kk _ _ _ _ _ _ _ _ _ _ _ ls (hI.drop _) hW (lv_sub hl [1, 2, 3, 4, 5] rfl)

set_option maxHeartbeats 4000000 in
set_option maxRecDepth 100000 in
/-- drop, no such block -/
theorem l_drop_bad (C : xL_C p l s m meth c D b L xs K kO K2 sa) (hT : T ≤ 600) (hi : i + 2 < L) (hL : L ≤ 1537) (hI : xI n V TV TO AG OP NX TK T) (hW : xL_S s D (xL_W A K n V TV TO AG OP NX TK ob kO f A2 K2 th) H locs) (hl : lv_has ls 7 [(0, .ref b), (1, .ref (A 0)), (2, .ref (A2 0)), (3, .ref ob), (4, .int (nI i))]) (kk : xL_K p l e s m below meth c D b A K A2 K2 ob kO n T i) (x : Int32) (e1 : xs (nI (i + 1)).toNatClampNeg = x) (hbad : ¬ ∃ j k : Nat, j < n ∧ k < 16 ∧ x = nI (96 + 16 * j + k)) : W p l e room_1 s m #[Value.ref b] below meth c H locs (14 + T) (4900 + 6 * T) (lw_Z below #[Value.ref b] s) (F0 m 212 ls []) := by
  obtain ⟨⟨hx, hb, hr, hml, hown, hts, hX, hbl, hlocks, hgv⟩, hK, hXS, hl0, ht⟩ := C
  have hbA : ¬ (fun q : Nat => s.heap.size ≤ q) b := Nat.not_le.mpr hbl
  have hn : n ≤ 128 := hI.2.1
  have hKh : va_K D xcl (xc_T K ++ [(kO, .long)]) s := hK.sub [0, 1, 2, 3, 4, 5] rfl
  have hKc : va_K D xcl (xc_T K) s := hK.sub [0, 1, 2, 3, 4] rfl
  have hKm : va_K D xcl (xm_T K2) s := hK.sub [6, 7, 8, 9, 10, 11] rfl
  have in1 : vp_in (nI (i + 1)) L := vp_in_nI (by omega) (by omega)
  have in2 : vp_in (nI (i + 2)) L := vp_in_nI (by omega) (by omega)
  have hW : xL_S s D ((xc_W A K n (xmk V) (xmk TV) AG (xzk TO OP) (xbk OP NX) TK ++ xo_W ob kO f) ++ xm_W A2 K2 th n V TV TO AG OP NX TK) H locs := hW
  refine lv_aload_n hx hb dL_law_212 rfl (lv_at hl 1 rfl) ?_
  refine lv_aload_n hx hb dL_law_213 rfl (lv_at hl 0 rfl) ?_
  refine lv_iload hx hb dL_law_214 (lv_at hl 4 rfl) ?_
  refine lv_iconst (v := 1) hx hb dL_law_216 (by decide) ?_
  refine lv_iadd hx hb dL_law_217 ?_
  refine xa_top (y := nI (i + 1)) (nI_add i 1) ?_
  refine va_sld hx hb hX hbl hbA hW.2.2 in1 dL_law_218 ?_
  refine xa_top (y := x) e1 ?_
  refine xl_L (ws := xc_W A K n (xmk V) (xmk TV) AG (xzk TO OP) (xbk OP NX) TK ++ xo_W ob kO f) (ws' := xc_W A K n (xmk V) (xmk TV) AG (xzk TO OP) (xbk OP NX) TK ++ xo_W ob kO f) (wr := xm_W A2 K2 th n V TV TO AG OP NX TK) (vx_runSW (As := [.ref (A 0), .int x]) (rest := []) ⟨hx, hb, hml, hown, ht⟩ (h_drop_bad l D A K n (xmk V) (xmk TV) AG (xzk TO OP) (xbk OP NX) TK hn x hbad ob kO f H.size s.heap.size sa hl0) (vx_cwSW 2 ht (xg_SH kml_RL_54 kst_yL_drop kin_RL kco_yL_drop) rfl rfl rfl (by decide +kernel) ⟨Nat.le_of_ble_eq_true rfl, Nat.le_of_ble_eq_true rfl⟩) (xk_preMX (xP_l hW.1) hKh (xD_l hW.2.1) hXS (xl_kept hW)) rfl rfl hl.1 rfl (lv_room (Nat.le_of_ble_eq_true rfl)) dL_law_219 ⟨by show 14 + T + 1 ≤ 601024; omega, by show 4900 + 6 * T + 6 ≤ 7293000; omega⟩) rfl hW (fun v9 H locs e9 hW => ?_)
  subst e9
  refine W.widen (k := 14 + (T + 1)) (n := 4900 + 6 * (T + 1)) (by omega) (by omega) ?_
  refine lv_istore (lv' := [(5, .int 1), (0, .ref b), (1, .ref (A 0)), (2, .ref (A2 0)), (3, .ref ob), (4, .int (nI i))]) hx hb dL_law_222 hl (by decide) rfl (fun ls hl => ?_)
  refine lv_aload_n hx hb dL_law_224 rfl (lv_at hl 3 rfl) ?_
  refine lv_aload_n hx hb dL_law_225 rfl (lv_at hl 1 rfl) ?_
  refine lv_iload hx hb dL_law_226 (lv_at hl 5 rfl) ?_
  refine lv_iconst (v := 1) hx hb dL_law_228 (by decide) ?_
  refine lv_iadd hx hb dL_law_229 ?_
  refine xa_top (y := nI (i + 1)) (nI_add i 1) ?_
  refine va_sld hx hb hX hbl hbA hW.2.2 in1 dL_law_230 ?_
  refine xa_top (y := x) e1 ?_
  refine xl_R (ws := xm_W A2 K2 th n V TV TO AG OP NX TK) (ws' := xm_W A2 K2 1 n V TV TO AG OP NX TK) (wr := xc_W A K n (xmk V) (xmk TV) AG (xzk TO OP) (xbk OP NX) TK ++ xo_W ob kO f) (va_runV (As := [.int x]) (rest := []) ⟨hx, hb, hml, hown, ht⟩ (m_drop_bad l D A2 K2 th n V TV TO AG OP NX TK hn x hbad H.size) (cwV 1 ht (xg_V kml_RL_57 kim_yX1_drop ksl_yX1_drop kin_RX1 kco_yX1_drop) rfl rfl rfl (by decide +kernel) ⟨Nat.le_of_ble_eq_true rfl, Nat.le_of_ble_eq_true rfl⟩) (xk_preMV (xP_r hW.1) hKm (xD_r hW.2.1) rfl rfl) rfl rfl hl.1 rfl (lv_room (Nat.le_of_ble_eq_true rfl)) dL_law_231 ⟨by show 14 + (T + 1) + 0 ≤ 601024; omega, by show 4900 + 6 * (T + 1) + 0 ≤ 7293000; omega⟩) rfl hW (fun v9 H locs e9 hW => ?_)
  subst e9
  refine W.widen (k := 14 + (T + 1)) (n := 4900 + 6 * (T + 1)) (by omega) (by omega) ?_
  refine lv_aload_n hx hb dL_law_234 rfl (lv_at hl 3 rfl) ?_
  refine xr_V (n := 0) (As := []) (rest := []) ⟨hx, hb, hml, hown, ht⟩ (m_thrown l D A2 K2 1 n V TV TO AG OP NX TK) (xg_V kml_RL_47 kim_yX1_thrown ksl_yX1_thrown kin_RX1 kco_yX1_thrown) ⟨rfl, rfl⟩ (by decide +kernel) ⟨Nat.le_of_ble_eq_true rfl, Nat.le_of_ble_eq_true rfl⟩ (xk_preV (xP_r hW.1) hKm rfl rfl) rfl hl.1 rfl (Nat.le_of_ble_eq_true rfl) dL_law_235 ⟨by show 14 + (T + 1) ≤ 601024; omega, by show 4900 + 6 * (T + 1) ≤ 7293000; omega⟩ (fun r8 e8 => ?_)
  subst e8
  refine lv_iload hx hb dL_law_238 (lv_at hl 0 rfl) ?_
  refine lv_icmp_eq (tgt := 245) hx hb dL_law_240 (by decide) (fun _ => ?_) (fun h => by first | exact absurd h (by decide) | exact absurd (by decide) h)
  refine lv_goto (tgt := 459) hx hb dL_law_245 (by decide) ?_
  have hW : xL_S s D (xL_W A K n V TV TO AG OP NX TK ob kO f A2 K2 1) H locs := by exact hW
  exact kk _ _ _ _ _ _ _ _ _ _ _ ls (hI.more) hW (lv_sub hl [1, 2, 3, 4, 5] rfl)

set_option maxHeartbeats 4000000 in
set_option maxRecDepth 100000 in
/-- drop, not in use -/
theorem l_drop_no (C : xL_C p l s m meth c D b L xs K kO K2 sa) (hT : T ≤ 600) (hi : i + 2 < L) (hL : L ≤ 1537) (hI : xI n V TV TO AG OP NX TK T) (hW : xL_S s D (xL_W A K n V TV TO AG OP NX TK ob kO f A2 K2 th) H locs) (hl : lv_has ls 7 [(0, .ref b), (1, .ref (A 0)), (2, .ref (A2 0)), (3, .ref ob), (4, .int (nI i))]) (kk : xL_K p l e s m below meth c D b A K A2 K2 ob kO n T i) (j k : Nat) (hj : j < n) (hk : k < 16) (e1 : xs (nI (i + 1)).toNatClampNeg = nI (96 + 16 * j + k)) (hs : V (16 * j + k) = false) : W p l e room_1 s m #[Value.ref b] below meth c H locs (14 + T) (4900 + 6 * T) (lw_Z below #[Value.ref b] s) (F0 m 212 ls []) := by
  obtain ⟨⟨hx, hb, hr, hml, hown, hts, hX, hbl, hlocks, hgv⟩, hK, hXS, hl0, ht⟩ := C
  have hbA : ¬ (fun q : Nat => s.heap.size ≤ q) b := Nat.not_le.mpr hbl
  have hn : n ≤ 128 := hI.2.1
  have hKh : va_K D xcl (xc_T K ++ [(kO, .long)]) s := hK.sub [0, 1, 2, 3, 4, 5] rfl
  have hKc : va_K D xcl (xc_T K) s := hK.sub [0, 1, 2, 3, 4] rfl
  have hKm : va_K D xcl (xm_T K2) s := hK.sub [6, 7, 8, 9, 10, 11] rfl
  have in1 : vp_in (nI (i + 1)) L := vp_in_nI (by omega) (by omega)
  have in2 : vp_in (nI (i + 2)) L := vp_in_nI (by omega) (by omega)
  have hW : xL_S s D ((xc_W A K n (xmk V) (xmk TV) AG (xzk TO OP) (xbk OP NX) TK ++ xo_W ob kO f) ++ xm_W A2 K2 th n V TV TO AG OP NX TK) H locs := hW
  refine lv_aload_n hx hb dL_law_212 rfl (lv_at hl 1 rfl) ?_
  refine lv_aload_n hx hb dL_law_213 rfl (lv_at hl 0 rfl) ?_
  refine lv_iload hx hb dL_law_214 (lv_at hl 4 rfl) ?_
  refine lv_iconst (v := 1) hx hb dL_law_216 (by decide) ?_
  refine lv_iadd hx hb dL_law_217 ?_
  refine xa_top (y := nI (i + 1)) (nI_add i 1) ?_
  refine va_sld hx hb hX hbl hbA hW.2.2 in1 dL_law_218 ?_
  refine xa_top (y := nI (96 + 16 * j + k)) e1 ?_
  refine xl_L (ws := xc_W A K n (xmk V) (xmk TV) AG (xzk TO OP) (xbk OP NX) TK ++ xo_W ob kO f) (ws' := xc_W A K n (xmk V) (xmk TV) AG (xzk TO OP) (xbk OP NX) TK ++ xo_W ob kO f) (wr := xm_W A2 K2 th n V TV TO AG OP NX TK) (vx_runSW (As := [.ref (A 0), .int (nI (96 + 16 * j + k))]) (rest := []) ⟨hx, hb, hml, hown, ht⟩ (h_drop_no l D A K n (xmk V) (xmk TV) AG (xzk TO OP) (xbk OP NX) TK hn (fun j => xmk_lt V j) (fun j => xmk_lt TV j) j k hj hk ((xmk_bit' V j k hk).trans hs) ob kO f H.size s.heap.size sa hl0) (vx_cwSW 2 ht (xg_SH kml_RL_54 kst_yL_drop kin_RL kco_yL_drop) rfl rfl rfl (by decide +kernel) ⟨Nat.le_of_ble_eq_true rfl, Nat.le_of_ble_eq_true rfl⟩) (xk_preMX (xP_l hW.1) hKh (xD_l hW.2.1) hXS (xl_kept hW)) rfl rfl hl.1 rfl (lv_room (Nat.le_of_ble_eq_true rfl)) dL_law_219 ⟨by show 14 + T + 1 ≤ 601024; omega, by show 4900 + 6 * T + 6 ≤ 7293000; omega⟩) rfl hW (fun v9 H locs e9 hW => ?_)
  subst e9
  refine W.widen (k := 14 + (T + 1)) (n := 4900 + 6 * (T + 1)) (by omega) (by omega) ?_
  refine lv_istore (lv' := [(5, .int 2), (0, .ref b), (1, .ref (A 0)), (2, .ref (A2 0)), (3, .ref ob), (4, .int (nI i))]) hx hb dL_law_222 hl (by decide) rfl (fun ls hl => ?_)
  refine lv_aload_n hx hb dL_law_224 rfl (lv_at hl 3 rfl) ?_
  refine lv_aload_n hx hb dL_law_225 rfl (lv_at hl 1 rfl) ?_
  refine lv_iload hx hb dL_law_226 (lv_at hl 5 rfl) ?_
  refine lv_iconst (v := 1) hx hb dL_law_228 (by decide) ?_
  refine lv_iadd hx hb dL_law_229 ?_
  refine xa_top (y := nI (i + 1)) (nI_add i 1) ?_
  refine va_sld hx hb hX hbl hbA hW.2.2 in1 dL_law_230 ?_
  refine xa_top (y := nI (96 + 16 * j + k)) e1 ?_
  refine xl_R (ws := xm_W A2 K2 th n V TV TO AG OP NX TK) (ws' := xm_W A2 K2 2 n V TV TO AG OP NX TK) (wr := xc_W A K n (xmk V) (xmk TV) AG (xzk TO OP) (xbk OP NX) TK ++ xo_W ob kO f) (va_runV (As := [.int (nI (96 + 16 * j + k))]) (rest := []) ⟨hx, hb, hml, hown, ht⟩ (m_drop_no l D A2 K2 th n V TV TO AG OP NX TK hn j k hj hk hs H.size) (cwV 1 ht (xg_V kml_RL_57 kim_yX1_drop ksl_yX1_drop kin_RX1 kco_yX1_drop) rfl rfl rfl (by decide +kernel) ⟨Nat.le_of_ble_eq_true rfl, Nat.le_of_ble_eq_true rfl⟩) (xk_preMV (xP_r hW.1) hKm (xD_r hW.2.1) rfl rfl) rfl rfl hl.1 rfl (lv_room (Nat.le_of_ble_eq_true rfl)) dL_law_231 ⟨by show 14 + (T + 1) + 0 ≤ 601024; omega, by show 4900 + 6 * (T + 1) + 0 ≤ 7293000; omega⟩) rfl hW (fun v9 H locs e9 hW => ?_)
  subst e9
  refine W.widen (k := 14 + (T + 1)) (n := 4900 + 6 * (T + 1)) (by omega) (by omega) ?_
  refine lv_aload_n hx hb dL_law_234 rfl (lv_at hl 3 rfl) ?_
  refine xr_V (n := 0) (As := []) (rest := []) ⟨hx, hb, hml, hown, ht⟩ (m_thrown l D A2 K2 2 n V TV TO AG OP NX TK) (xg_V kml_RL_47 kim_yX1_thrown ksl_yX1_thrown kin_RX1 kco_yX1_thrown) ⟨rfl, rfl⟩ (by decide +kernel) ⟨Nat.le_of_ble_eq_true rfl, Nat.le_of_ble_eq_true rfl⟩ (xk_preV (xP_r hW.1) hKm rfl rfl) rfl hl.1 rfl (Nat.le_of_ble_eq_true rfl) dL_law_235 ⟨by show 14 + (T + 1) ≤ 601024; omega, by show 4900 + 6 * (T + 1) ≤ 7293000; omega⟩ (fun r8 e8 => ?_)
  subst e8
  refine lv_iload hx hb dL_law_238 (lv_at hl 0 rfl) ?_
  refine lv_icmp_eq (tgt := 245) hx hb dL_law_240 (by decide) (fun _ => ?_) (fun h => by first | exact absurd h (by decide) | exact absurd (by decide) h)
  refine lv_goto (tgt := 459) hx hb dL_law_245 (by decide) ?_
  have hW : xL_S s D (xL_W A K n V TV TO AG OP NX TK ob kO f A2 K2 2) H locs := by exact hW
  exact kk _ _ _ _ _ _ _ _ _ _ _ ls (hI.more) hW (lv_sub hl [1, 2, 3, 4, 5] rfl)

set_option maxHeartbeats 4000000 in
set_option maxRecDepth 100000 in
/-- isUsed -/
theorem l_isUsed_ok (C : xL_C p l s m meth c D b L xs K kO K2 sa) (hT : T ≤ 600) (hi : i + 2 < L) (hL : L ≤ 1537) (hI : xI n V TV TO AG OP NX TK T) (hW : xL_S s D (xL_W A K n V TV TO AG OP NX TK ob kO f A2 K2 th) H locs) (hl : lv_has ls 7 [(0, .ref b), (1, .ref (A 0)), (2, .ref (A2 0)), (3, .ref ob), (4, .int (nI i))]) (kk : xL_K p l e s m below meth c D b A K A2 K2 ob kO n T i) (j k : Nat) (hj : j < n) (hk : k < 16) (e1 : xs (nI (i + 1)).toNatClampNeg = nI (96 + 16 * j + k)) : W p l e room_1 s m #[Value.ref b] below meth c H locs (14 + T) (4900 + 6 * T) (lw_Z below #[Value.ref b] s) (F0 m 248 ls []) := by
  obtain ⟨⟨hx, hb, hr, hml, hown, hts, hX, hbl, hlocks, hgv⟩, hK, hXS, hl0, ht⟩ := C
  have hbA : ¬ (fun q : Nat => s.heap.size ≤ q) b := Nat.not_le.mpr hbl
  have hn : n ≤ 128 := hI.2.1
  have hKh : va_K D xcl (xc_T K ++ [(kO, .long)]) s := hK.sub [0, 1, 2, 3, 4, 5] rfl
  have hKc : va_K D xcl (xc_T K) s := hK.sub [0, 1, 2, 3, 4] rfl
  have hKm : va_K D xcl (xm_T K2) s := hK.sub [6, 7, 8, 9, 10, 11] rfl
  have in1 : vp_in (nI (i + 1)) L := vp_in_nI (by omega) (by omega)
  have in2 : vp_in (nI (i + 2)) L := vp_in_nI (by omega) (by omega)
  have hW : xL_S s D ((xc_W A K n (xmk V) (xmk TV) AG (xzk TO OP) (xbk OP NX) TK ++ xo_W ob kO f) ++ xm_W A2 K2 th n V TV TO AG OP NX TK) H locs := hW
  refine lv_aload_n hx hb dL_law_248 rfl (lv_at hl 1 rfl) ?_
  refine lv_aload_n hx hb dL_law_249 rfl (lv_at hl 0 rfl) ?_
  refine lv_iload hx hb dL_law_250 (lv_at hl 4 rfl) ?_
  refine lv_iconst (v := 1) hx hb dL_law_252 (by decide) ?_
  refine lv_iadd hx hb dL_law_253 ?_
  refine xa_top (y := nI (i + 1)) (nI_add i 1) ?_
  refine va_sld hx hb hX hbl hbA hW.2.2 in1 dL_law_254 ?_
  refine xa_top (y := nI (96 + 16 * j + k)) e1 ?_
  refine lv_aload_n hx hb dL_law_255 rfl (lv_at hl 3 rfl) ?_
  refine xl_L (ws := xc_W A K n (xmk V) (xmk TV) AG (xzk TO OP) (xbk OP NX) TK ++ xo_W ob kO f) (ws' := xc_W A K n (xmk V) (xmk TV) AG (xzk TO OP) (xbk OP NX) TK ++ xo_W ob kO (vp_updL f 0 (if (xmk V j).testBit k then 1 else 0))) (wr := xm_W A2 K2 th n V TV TO AG OP NX TK) (vx_runSW (As := [.ref (A 0), .int (nI (96 + 16 * j + k)), .ref ob]) (rest := []) ⟨hx, hb, hml, hown, ht⟩ (h_isUsed_ok l D A K n (xmk V) (xmk TV) AG (xzk TO OP) (xbk OP NX) TK hn (fun j => xmk_lt V j) (fun j => xmk_lt TV j) j k hj hk ob kO f H.size) (vx_cwSW 3 ht (xg_SH kml_RL_58 kst_yL_isUsed kin_RL kco_yL_isUsed) rfl rfl rfl (by decide +kernel) ⟨Nat.le_of_ble_eq_true rfl, Nat.le_of_ble_eq_true rfl⟩) (xk_preM (xP_l hW.1) hKh (xD_l hW.2.1)) rfl rfl hl.1 rfl (lv_room (Nat.le_of_ble_eq_true rfl)) dL_law_256 ⟨by show 14 + T + 0 ≤ 601024; omega, by show 4900 + 6 * T + 0 ≤ 7293000; omega⟩) rfl hW (fun v9 H locs e9 hW => ?_)
  subst e9
  refine W.widen (k := 14 + (T + 1)) (n := 4900 + 6 * (T + 1)) (by omega) (by omega) ?_
  refine lv_istore (lv' := [(5, .int 0), (0, .ref b), (1, .ref (A 0)), (2, .ref (A2 0)), (3, .ref ob), (4, .int (nI i))]) hx hb dL_law_259 hl (by decide) rfl (fun ls hl => ?_)
  refine lv_aload_n hx hb dL_law_261 rfl (lv_at hl 3 rfl) ?_
  refine lv_aload_n hx hb dL_law_262 rfl (lv_at hl 1 rfl) ?_
  refine lv_iload hx hb dL_law_263 (lv_at hl 5 rfl) ?_
  refine lv_iconst (v := 1) hx hb dL_law_265 (by decide) ?_
  refine lv_iadd hx hb dL_law_266 ?_
  refine xa_top (y := nI (i + 1)) (nI_add i 1) ?_
  refine va_sld hx hb hX hbl hbA hW.2.2 in1 dL_law_267 ?_
  refine xa_top (y := nI (96 + 16 * j + k)) e1 ?_
  refine xl_R (ws := xm_W A2 K2 th n V TV TO AG OP NX TK) (ws' := xm_W A2 K2 0 n V TV TO AG OP NX TK) (wr := xc_W A K n (xmk V) (xmk TV) AG (xzk TO OP) (xbk OP NX) TK ++ xo_W ob kO (vp_updL f 0 (if (xmk V j).testBit k then 1 else 0))) (va_runV (As := [.int (nI (96 + 16 * j + k))]) (rest := []) ⟨hx, hb, hml, hown, ht⟩ (m_isUsed_ok l D A2 K2 th n V TV TO AG OP NX TK hn j k hj hk H.size) (cwV 1 ht (xg_V kml_RL_60 kim_yX1_isUsed ksl_yX1_isUsed kin_RX1 kco_yX1_isUsed) rfl rfl rfl (by decide +kernel) ⟨Nat.le_of_ble_eq_true rfl, Nat.le_of_ble_eq_true rfl⟩) (xk_preMV (xP_r hW.1) hKm (xD_r hW.2.1) rfl rfl) rfl rfl hl.1 rfl (lv_room (Nat.le_of_ble_eq_true rfl)) dL_law_268 ⟨by show 14 + (T + 1) + 0 ≤ 601024; omega, by show 4900 + 6 * (T + 1) + 0 ≤ 7293000; omega⟩) rfl hW (fun v9 H locs e9 hW => ?_)
  subst e9
  refine W.widen (k := 14 + (T + 1)) (n := 4900 + 6 * (T + 1)) (by omega) (by omega) ?_
  refine lv_istore (lv' := [(6, .int (xb (V (16 * j + k)))), (5, .int 0), (0, .ref b), (1, .ref (A 0)), (2, .ref (A2 0)), (3, .ref ob), (4, .int (nI i))]) hx hb dL_law_271 hl (by decide) rfl (fun ls hl => ?_)
  refine lv_aload_n hx hb dL_law_273 rfl (lv_at hl 4 rfl) ?_
  refine xr_V (n := 0) (As := []) (rest := []) ⟨hx, hb, hml, hown, ht⟩ (m_thrown l D A2 K2 0 n V TV TO AG OP NX TK) (xg_V kml_RL_47 kim_yX1_thrown ksl_yX1_thrown kin_RX1 kco_yX1_thrown) ⟨rfl, rfl⟩ (by decide +kernel) ⟨Nat.le_of_ble_eq_true rfl, Nat.le_of_ble_eq_true rfl⟩ (xk_preV (xP_r hW.1) hKm rfl rfl) rfl hl.1 rfl (Nat.le_of_ble_eq_true rfl) dL_law_274 ⟨by show 14 + (T + 1) ≤ 601024; omega, by show 4900 + 6 * (T + 1) ≤ 7293000; omega⟩ (fun r8 e8 => ?_)
  subst e8
  refine lv_iload hx hb dL_law_277 (lv_at hl 1 rfl) ?_
  refine lv_icmp_eq (tgt := 284) hx hb dL_law_279 (by decide) (fun _ => ?_) (fun h => by first | exact absurd h (by decide) | exact absurd (by decide) h)
  refine lv_iload hx hb dL_law_284 (lv_at hl 1 rfl) ?_
  refine lv_if_ne (tgt := 308) hx hb dL_law_286 (by decide) (fun h => by first | exact absurd h (by decide) | exact absurd (by decide) h) (fun _ => ?_)
  refine lv_aload_n hx hb dL_law_289 rfl (lv_at hl 5 rfl) ?_
  refine lv_iconst (v := 0) hx hb dL_law_290 (by decide) ?_
  refine va_lald hx hb hKh (xP_l hW.1) 6 5 rfl rfl (i := 0) (vp_in_nI (n := 0) (by decide) (by decide)) dL_law_291 ?_
  refine lv_iload hx hb dL_law_292 (lv_at hl 0 rfl) ?_
  refine lv_if_eq (tgt := 301) hx hb dL_law_294 (by decide) (fun h2 => ?_) (fun h2 => ?_)
  · rw [xb_0] at h2
    refine lv_lconst (v := 0) hx hb dL_law_301 rfl ?_
    refine W.lcmp hx hb dL_law_302 ?_
    refine lv_if_eq (tgt := 308) hx hb dL_law_303 (by decide) (fun _ => ?_) (fun h => absurd (by rw [xl_f0, xmk_bit' V j k hk, h2]; exact xl_cmp _) h)
    refine lv_goto (tgt := 459) hx hb dL_law_308 (by decide) ?_
    have hW : xL_S s D (xL_W A K n V TV TO AG OP NX TK ob kO (vp_updL f 0 (if (xmk V j).testBit k then 1 else 0)) A2 K2 0) H locs := by exact hW
    exact kk _ _ _ _ _ _ _ _ _ _ _ ls (hI.more) hW (lv_sub hl [2, 3, 4, 5, 6] rfl)
  · rw [xb_n0] at h2
    refine lv_lconst (v := 1) hx hb dL_law_297 rfl ?_
    refine lv_goto (tgt := 302) hx hb dL_law_298 (by decide) ?_
    refine W.lcmp hx hb dL_law_302 ?_
    refine lv_if_eq (tgt := 308) hx hb dL_law_303 (by decide) (fun _ => ?_) (fun h => absurd (by rw [xl_f0, xmk_bit' V j k hk, h2]; exact xl_cmp _) h)
    refine lv_goto (tgt := 459) hx hb dL_law_308 (by decide) ?_
    have hW : xL_S s D (xL_W A K n V TV TO AG OP NX TK ob kO (vp_updL f 0 (if (xmk V j).testBit k then 1 else 0)) A2 K2 0) H locs := by exact hW
    exact kk _ _ _ _ _ _ _ _ _ _ _ ls (hI.more) hW (lv_sub hl [2, 3, 4, 5, 6] rfl)

set_option maxHeartbeats 4000000 in
set_option maxRecDepth 100000 in
/-- isUsed, no such block -/
theorem l_isUsed_bad (C : xL_C p l s m meth c D b L xs K kO K2 sa) (hT : T ≤ 600) (hi : i + 2 < L) (hL : L ≤ 1537) (hI : xI n V TV TO AG OP NX TK T) (hW : xL_S s D (xL_W A K n V TV TO AG OP NX TK ob kO f A2 K2 th) H locs) (hl : lv_has ls 7 [(0, .ref b), (1, .ref (A 0)), (2, .ref (A2 0)), (3, .ref ob), (4, .int (nI i))]) (kk : xL_K p l e s m below meth c D b A K A2 K2 ob kO n T i) (x : Int32) (e1 : xs (nI (i + 1)).toNatClampNeg = x) (hbad : ¬ ∃ j k : Nat, j < n ∧ k < 16 ∧ x = nI (96 + 16 * j + k)) : W p l e room_1 s m #[Value.ref b] below meth c H locs (14 + T) (4900 + 6 * T) (lw_Z below #[Value.ref b] s) (F0 m 248 ls []) := by
  obtain ⟨⟨hx, hb, hr, hml, hown, hts, hX, hbl, hlocks, hgv⟩, hK, hXS, hl0, ht⟩ := C
  have hbA : ¬ (fun q : Nat => s.heap.size ≤ q) b := Nat.not_le.mpr hbl
  have hn : n ≤ 128 := hI.2.1
  have hKh : va_K D xcl (xc_T K ++ [(kO, .long)]) s := hK.sub [0, 1, 2, 3, 4, 5] rfl
  have hKc : va_K D xcl (xc_T K) s := hK.sub [0, 1, 2, 3, 4] rfl
  have hKm : va_K D xcl (xm_T K2) s := hK.sub [6, 7, 8, 9, 10, 11] rfl
  have in1 : vp_in (nI (i + 1)) L := vp_in_nI (by omega) (by omega)
  have in2 : vp_in (nI (i + 2)) L := vp_in_nI (by omega) (by omega)
  have hW : xL_S s D ((xc_W A K n (xmk V) (xmk TV) AG (xzk TO OP) (xbk OP NX) TK ++ xo_W ob kO f) ++ xm_W A2 K2 th n V TV TO AG OP NX TK) H locs := hW
  refine lv_aload_n hx hb dL_law_248 rfl (lv_at hl 1 rfl) ?_
  refine lv_aload_n hx hb dL_law_249 rfl (lv_at hl 0 rfl) ?_
  refine lv_iload hx hb dL_law_250 (lv_at hl 4 rfl) ?_
  refine lv_iconst (v := 1) hx hb dL_law_252 (by decide) ?_
  refine lv_iadd hx hb dL_law_253 ?_
  refine xa_top (y := nI (i + 1)) (nI_add i 1) ?_
  refine va_sld hx hb hX hbl hbA hW.2.2 in1 dL_law_254 ?_
  refine xa_top (y := x) e1 ?_
  refine lv_aload_n hx hb dL_law_255 rfl (lv_at hl 3 rfl) ?_
  refine xl_L (ws := xc_W A K n (xmk V) (xmk TV) AG (xzk TO OP) (xbk OP NX) TK ++ xo_W ob kO f) (ws' := xc_W A K n (xmk V) (xmk TV) AG (xzk TO OP) (xbk OP NX) TK ++ xo_W ob kO f) (wr := xm_W A2 K2 th n V TV TO AG OP NX TK) (vx_runSW (As := [.ref (A 0), .int x, .ref ob]) (rest := []) ⟨hx, hb, hml, hown, ht⟩ (h_isUsed_bad l D A K n (xmk V) (xmk TV) AG (xzk TO OP) (xbk OP NX) TK hn x hbad ob kO f H.size s.heap.size sa hl0) (vx_cwSW 3 ht (xg_SH kml_RL_58 kst_yL_isUsed kin_RL kco_yL_isUsed) rfl rfl rfl (by decide +kernel) ⟨Nat.le_of_ble_eq_true rfl, Nat.le_of_ble_eq_true rfl⟩) (xk_preMX (xP_l hW.1) hKh (xD_l hW.2.1) hXS (xl_kept hW)) rfl rfl hl.1 rfl (lv_room (Nat.le_of_ble_eq_true rfl)) dL_law_256 ⟨by show 14 + T + 1 ≤ 601024; omega, by show 4900 + 6 * T + 6 ≤ 7293000; omega⟩) rfl hW (fun v9 H locs e9 hW => ?_)
  subst e9
  refine W.widen (k := 14 + (T + 1)) (n := 4900 + 6 * (T + 1)) (by omega) (by omega) ?_
  refine lv_istore (lv' := [(5, .int 1), (0, .ref b), (1, .ref (A 0)), (2, .ref (A2 0)), (3, .ref ob), (4, .int (nI i))]) hx hb dL_law_259 hl (by decide) rfl (fun ls hl => ?_)
  refine lv_aload_n hx hb dL_law_261 rfl (lv_at hl 3 rfl) ?_
  refine lv_aload_n hx hb dL_law_262 rfl (lv_at hl 1 rfl) ?_
  refine lv_iload hx hb dL_law_263 (lv_at hl 5 rfl) ?_
  refine lv_iconst (v := 1) hx hb dL_law_265 (by decide) ?_
  refine lv_iadd hx hb dL_law_266 ?_
  refine xa_top (y := nI (i + 1)) (nI_add i 1) ?_
  refine va_sld hx hb hX hbl hbA hW.2.2 in1 dL_law_267 ?_
  refine xa_top (y := x) e1 ?_
  refine xl_R (ws := xm_W A2 K2 th n V TV TO AG OP NX TK) (ws' := xm_W A2 K2 1 n V TV TO AG OP NX TK) (wr := xc_W A K n (xmk V) (xmk TV) AG (xzk TO OP) (xbk OP NX) TK ++ xo_W ob kO f) (va_runV (As := [.int x]) (rest := []) ⟨hx, hb, hml, hown, ht⟩ (m_isUsed_bad l D A2 K2 th n V TV TO AG OP NX TK hn x hbad H.size) (cwV 1 ht (xg_V kml_RL_60 kim_yX1_isUsed ksl_yX1_isUsed kin_RX1 kco_yX1_isUsed) rfl rfl rfl (by decide +kernel) ⟨Nat.le_of_ble_eq_true rfl, Nat.le_of_ble_eq_true rfl⟩) (xk_preMV (xP_r hW.1) hKm (xD_r hW.2.1) rfl rfl) rfl rfl hl.1 rfl (lv_room (Nat.le_of_ble_eq_true rfl)) dL_law_268 ⟨by show 14 + (T + 1) + 0 ≤ 601024; omega, by show 4900 + 6 * (T + 1) + 0 ≤ 7293000; omega⟩) rfl hW (fun v9 H locs e9 hW => ?_)
  obtain ⟨r9, e9⟩ := e9
  subst e9
  refine W.widen (k := 14 + (T + 1)) (n := 4900 + 6 * (T + 1)) (by omega) (by omega) ?_
  refine lv_istore (lv' := [(6, .int r9), (5, .int 1), (0, .ref b), (1, .ref (A 0)), (2, .ref (A2 0)), (3, .ref ob), (4, .int (nI i))]) hx hb dL_law_271 hl (by decide) rfl (fun ls hl => ?_)
  refine lv_aload_n hx hb dL_law_273 rfl (lv_at hl 4 rfl) ?_
  refine xr_V (n := 0) (As := []) (rest := []) ⟨hx, hb, hml, hown, ht⟩ (m_thrown l D A2 K2 1 n V TV TO AG OP NX TK) (xg_V kml_RL_47 kim_yX1_thrown ksl_yX1_thrown kin_RX1 kco_yX1_thrown) ⟨rfl, rfl⟩ (by decide +kernel) ⟨Nat.le_of_ble_eq_true rfl, Nat.le_of_ble_eq_true rfl⟩ (xk_preV (xP_r hW.1) hKm rfl rfl) rfl hl.1 rfl (Nat.le_of_ble_eq_true rfl) dL_law_274 ⟨by show 14 + (T + 1) ≤ 601024; omega, by show 4900 + 6 * (T + 1) ≤ 7293000; omega⟩ (fun r8 e8 => ?_)
  subst e8
  refine lv_iload hx hb dL_law_277 (lv_at hl 1 rfl) ?_
  refine lv_icmp_eq (tgt := 284) hx hb dL_law_279 (by decide) (fun _ => ?_) (fun h => by first | exact absurd h (by decide) | exact absurd (by decide) h)
  refine lv_iload hx hb dL_law_284 (lv_at hl 1 rfl) ?_
  refine lv_if_ne (tgt := 308) hx hb dL_law_286 (by decide) (fun _ => ?_) (fun h => by first | exact absurd h (by decide) | exact absurd (by decide) h)
  refine lv_goto (tgt := 459) hx hb dL_law_308 (by decide) ?_
  have hW : xL_S s D (xL_W A K n V TV TO AG OP NX TK ob kO f A2 K2 1) H locs := by exact hW
  exact kk _ _ _ _ _ _ _ _ _ _ _ ls (hI.more) hW (lv_sub hl [2, 3, 4, 5, 6] rfl)

set_option maxHeartbeats 4000000 in
set_option maxRecDepth 100000 in
/-- take within its segment -/
theorem l_take_stay (C : xL_C p l s m meth c D b L xs K kO K2 sa) (hT : T ≤ 600) (hi : i + 2 < L) (hL : L ≤ 1537) (hI : xI n V TV TO AG OP NX TK T) (hW : xL_S s D (xL_W A K n V TV TO AG OP NX TK ob kO f A2 K2 th) H locs) (hl : lv_has ls 7 [(0, .ref b), (1, .ref (A 0)), (2, .ref (A2 0)), (3, .ref ob), (4, .int (nI i))]) (kk : xL_K p l e s m below meth c D b A K A2 K2 ob kO n T i) (q j k : Nat) (hq : q < 6) (e1 : xs (nI (i + 1)).toNatClampNeg = nI q) (hO : OP q = j) (hN : NX q = k) (hj : j < n) (hk : k < 15) : W p l e room_1 s m #[Value.ref b] below meth c H locs (14 + T) (4900 + 6 * T) (lw_Z below #[Value.ref b] s) (F0 m 100 ls []) := by
  obtain ⟨⟨hx, hb, hr, hml, hown, hts, hX, hbl, hlocks, hgv⟩, hK, hXS, hl0, ht⟩ := C
  have hbA : ¬ (fun q : Nat => s.heap.size ≤ q) b := Nat.not_le.mpr hbl
  have hn : n ≤ 128 := hI.2.1
  have hKh : va_K D xcl (xc_T K ++ [(kO, .long)]) s := hK.sub [0, 1, 2, 3, 4, 5] rfl
  have hKc : va_K D xcl (xc_T K) s := hK.sub [0, 1, 2, 3, 4] rfl
  have hKm : va_K D xcl (xm_T K2) s := hK.sub [6, 7, 8, 9, 10, 11] rfl
  have in1 : vp_in (nI (i + 1)) L := vp_in_nI (by omega) (by omega)
  have in2 : vp_in (nI (i + 2)) L := vp_in_nI (by omega) (by omega)
  have hW : xL_S s D ((xc_W A K n (xmk V) (xmk TV) AG (xzk TO OP) (xbk OP NX) TK ++ xo_W ob kO f) ++ xm_W A2 K2 th n V TV TO AG OP NX TK) H locs := hW
  refine lv_aload_n hx hb dL_law_100 rfl (lv_at hl 1 rfl) ?_
  refine lv_aload_n hx hb dL_law_101 rfl (lv_at hl 0 rfl) ?_
  refine lv_iload hx hb dL_law_102 (lv_at hl 4 rfl) ?_
  refine lv_iconst (v := 1) hx hb dL_law_104 (by decide) ?_
  refine lv_iadd hx hb dL_law_105 ?_
  refine xa_top (y := nI (i + 1)) (nI_add i 1) ?_
  refine va_sld hx hb hX hbl hbA hW.2.2 in1 dL_law_106 ?_
  refine xa_top (y := nI q) e1 ?_
  refine lv_aload_n hx hb dL_law_107 rfl (lv_at hl 3 rfl) ?_
  refine xl_L (ws := xc_W A K n (xmk V) (xmk TV) AG (xzk TO OP) (xbk OP NX) TK ++ xo_W ob kO f) (ws' := xc_W A K n (va_up (xmk V) j (xmk V j ||| 2 ^ k)) (xmk TV) (va_up AG j (TK + 1)) (va_up (xzk TO OP) j true) (va_up (xbk OP NX) q (96 + 16 * j + (k + 1))) (TK + 1) ++ xo_W ob kO (vp_updL f 0 ((nI (96 + 16 * j + k)).toInt64))) (wr := xm_W A2 K2 th n V TV TO AG OP NX TK) (vx_runSW (As := [.ref (A 0), .int (nI q), .ref ob]) (rest := []) ⟨hx, hb, hml, hown, ht⟩ (h_take_stay l D A K n (xmk V) (xmk TV) AG (xzk TO OP) (xbk OP NX) TK hn (fun j => xmk_lt V j) (fun j => xmk_lt TV j) q j k hq (by rw [(hI.blk q hq).1, hO, hN]) hj hk ob kO f H.size) (vx_cwSW 3 ht (xg_SH kml_RL_43 kst_yL_take kin_RL kco_yL_take) rfl rfl rfl (by decide +kernel) ⟨Nat.le_of_ble_eq_true rfl, Nat.le_of_ble_eq_true rfl⟩) (xk_preM (xP_l hW.1) hKh (xD_l hW.2.1)) rfl rfl hl.1 rfl (lv_room (Nat.le_of_ble_eq_true rfl)) dL_law_108 ⟨by show 14 + T + 0 ≤ 601024; omega, by show 4900 + 6 * T + 0 ≤ 7293000; omega⟩) rfl hW (fun v9 H locs e9 hW => ?_)
  subst e9
  refine W.widen (k := 14 + (T + 1)) (n := 4900 + 6 * (T + 1)) (by omega) (by omega) ?_
  refine lv_istore (lv' := [(5, .int 0), (0, .ref b), (1, .ref (A 0)), (2, .ref (A2 0)), (3, .ref ob), (4, .int (nI i))]) hx hb dL_law_111 hl (by decide) rfl (fun ls hl => ?_)
  refine lv_aload_n hx hb dL_law_113 rfl (lv_at hl 3 rfl) ?_
  refine lv_aload_n hx hb dL_law_114 rfl (lv_at hl 1 rfl) ?_
  refine lv_iload hx hb dL_law_115 (lv_at hl 5 rfl) ?_
  refine lv_iconst (v := 1) hx hb dL_law_117 (by decide) ?_
  refine lv_iadd hx hb dL_law_118 ?_
  refine xa_top (y := nI (i + 1)) (nI_add i 1) ?_
  refine va_sld hx hb hX hbl hbA hW.2.2 in1 dL_law_119 ?_
  refine xa_top (y := nI q) e1 ?_
  refine xl_R (ws := xm_W A2 K2 th n V TV TO AG OP NX TK) (ws' := xm_W A2 K2 0 n (va_up V (16 * j + k) true) TV (va_up TO j true) (va_up AG j (TK + 1)) OP (va_up NX q (k + 1)) (TK + 1)) (wr := xc_W A K n (va_up (xmk V) j (xmk V j ||| 2 ^ k)) (xmk TV) (va_up AG j (TK + 1)) (va_up (xzk TO OP) j true) (va_up (xbk OP NX) q (96 + 16 * j + (k + 1))) (TK + 1) ++ xo_W ob kO (vp_updL f 0 ((nI (96 + 16 * j + k)).toInt64))) (va_runV (As := [.int (nI q)]) (rest := []) ⟨hx, hb, hml, hown, ht⟩ (m_take_stay l D A2 K2 th n V TV TO AG OP NX TK hn hI.op q j k hq hO hN hj hk H.size) (cwV 1 ht (xg_V kml_RL_46 kim_yX1_take ksl_yX1_take kin_RX1 kco_yX1_take) rfl rfl rfl (by decide +kernel) ⟨Nat.le_of_ble_eq_true rfl, Nat.le_of_ble_eq_true rfl⟩) (xk_preMV (xP_r hW.1) hKm (xD_r hW.2.1) rfl rfl) rfl rfl hl.1 rfl (lv_room (Nat.le_of_ble_eq_true rfl)) dL_law_120 ⟨by show 14 + (T + 1) + 0 ≤ 601024; omega, by show 4900 + 6 * (T + 1) + 0 ≤ 7293000; omega⟩) rfl hW (fun v9 H locs e9 hW => ?_)
  subst e9
  refine W.widen (k := 14 + (T + 1)) (n := 4900 + 6 * (T + 1)) (by omega) (by omega) ?_
  refine lv_istore (lv' := [(6, .int (nI (96 + 16 * j + k))), (5, .int 0), (0, .ref b), (1, .ref (A 0)), (2, .ref (A2 0)), (3, .ref ob), (4, .int (nI i))]) hx hb dL_law_123 hl (by decide) rfl (fun ls hl => ?_)
  refine lv_aload_n hx hb dL_law_125 rfl (lv_at hl 4 rfl) ?_
  refine xr_V (n := 0) (As := []) (rest := []) ⟨hx, hb, hml, hown, ht⟩ (m_thrown l D A2 K2 0 n (va_up V (16 * j + k) true) TV (va_up TO j true) (va_up AG j (TK + 1)) OP (va_up NX q (k + 1)) (TK + 1)) (xg_V kml_RL_47 kim_yX1_thrown ksl_yX1_thrown kin_RX1 kco_yX1_thrown) ⟨rfl, rfl⟩ (by decide +kernel) ⟨Nat.le_of_ble_eq_true rfl, Nat.le_of_ble_eq_true rfl⟩ (xk_preV (xP_r hW.1) hKm rfl rfl) rfl hl.1 rfl (Nat.le_of_ble_eq_true rfl) dL_law_126 ⟨by show 14 + (T + 1) ≤ 601024; omega, by show 4900 + 6 * (T + 1) ≤ 7293000; omega⟩ (fun r8 e8 => ?_)
  subst e8
  refine lv_iload hx hb dL_law_129 (lv_at hl 1 rfl) ?_
  refine lv_icmp_eq (tgt := 136) hx hb dL_law_131 (by decide) (fun _ => ?_) (fun h => by first | exact absurd h (by decide) | exact absurd (by decide) h)
  refine lv_iload hx hb dL_law_136 (lv_at hl 1 rfl) ?_
  refine lv_if_ne (tgt := 153) hx hb dL_law_138 (by decide) (fun h => by first | exact absurd h (by decide) | exact absurd (by decide) h) (fun _ => ?_)
  refine lv_aload_n hx hb dL_law_141 rfl (lv_at hl 5 rfl) ?_
  refine lv_iconst (v := 0) hx hb dL_law_142 (by decide) ?_
  refine va_lald hx hb hKh (xP_l hW.1) 6 5 rfl rfl (i := 0) (vp_in_nI (n := 0) (by decide) (by decide)) dL_law_143 ?_
  refine lv_iload hx hb dL_law_144 (lv_at hl 0 rfl) ?_
  refine lv_i2l hx hb dL_law_146 rfl ?_
  refine W.lcmp hx hb dL_law_147 ?_
  refine lv_if_eq (tgt := 153) hx hb dL_law_148 (by decide) (fun _ => ?_) (fun h => absurd (by rw [xl_f0]; exact xl_cmp _) h)
  refine lv_goto (tgt := 459) hx hb dL_law_153 (by decide) ?_
  have hW : xL_S s D (xL_W A K n (va_up V (16 * j + k) true) TV (va_up TO j true) (va_up AG j (TK + 1)) OP (va_up NX q (k + 1)) (TK + 1) ob kO (vp_updL f 0 ((nI (96 + 16 * j + k)).toInt64)) A2 K2 0) H locs := by rw [xmk_set V j k (by omega), xzk_stay TO OP j, xbk_stay OP NX q j k hq hO] at hW; exact hW
  exact kk _ _ _ _ _ _ _ _ _ _ _ ls (hI.stay hj hk) hW (lv_sub hl [2, 3, 4, 5, 6] rfl)

set_option maxHeartbeats 4000000 in
set_option maxRecDepth 100000 in
/-- take, another segment opened -/
theorem l_take_open (C : xL_C p l s m meth c D b L xs K kO K2 sa) (hT : T ≤ 600) (hi : i + 2 < L) (hL : L ≤ 1537) (hI : xI n V TV TO AG OP NX TK T) (hW : xL_S s D (xL_W A K n V TV TO AG OP NX TK ob kO f A2 K2 th) H locs) (hl : lv_has ls 7 [(0, .ref b), (1, .ref (A 0)), (2, .ref (A2 0)), (3, .ref ob), (4, .int (nI i))]) (kk : xL_K p l e s m below meth c D b A K A2 K2 ob kO n T i) (q j k : Nat) (hq : q < 6) (e1 : xs (nI (i + 1)).toNatClampNeg = nI q) (hO : OP q = j) (hN : NX q = k) (hj : j < n) (hk : k = 15) (o : Nat) (ho : o < n) (ho1 : xmfr V TV TO OP o = true) (ho2 : ∀ i, i < o → xmfr V TV TO OP i = false) : W p l e room_1 s m #[Value.ref b] below meth c H locs (14 + T) (4900 + 6 * T) (lw_Z below #[Value.ref b] s) (F0 m 100 ls []) := by
  obtain ⟨⟨hx, hb, hr, hml, hown, hts, hX, hbl, hlocks, hgv⟩, hK, hXS, hl0, ht⟩ := C
  have hbA : ¬ (fun q : Nat => s.heap.size ≤ q) b := Nat.not_le.mpr hbl
  have hn : n ≤ 128 := hI.2.1
  have hKh : va_K D xcl (xc_T K ++ [(kO, .long)]) s := hK.sub [0, 1, 2, 3, 4, 5] rfl
  have hKc : va_K D xcl (xc_T K) s := hK.sub [0, 1, 2, 3, 4] rfl
  have hKm : va_K D xcl (xm_T K2) s := hK.sub [6, 7, 8, 9, 10, 11] rfl
  have in1 : vp_in (nI (i + 1)) L := vp_in_nI (by omega) (by omega)
  have in2 : vp_in (nI (i + 2)) L := vp_in_nI (by omega) (by omega)
  have hW : xL_S s D ((xc_W A K n (xmk V) (xmk TV) AG (xzk TO OP) (xbk OP NX) TK ++ xo_W ob kO f) ++ xm_W A2 K2 th n V TV TO AG OP NX TK) H locs := hW
  refine lv_aload_n hx hb dL_law_100 rfl (lv_at hl 1 rfl) ?_
  refine lv_aload_n hx hb dL_law_101 rfl (lv_at hl 0 rfl) ?_
  refine lv_iload hx hb dL_law_102 (lv_at hl 4 rfl) ?_
  refine lv_iconst (v := 1) hx hb dL_law_104 (by decide) ?_
  refine lv_iadd hx hb dL_law_105 ?_
  refine xa_top (y := nI (i + 1)) (nI_add i 1) ?_
  refine va_sld hx hb hX hbl hbA hW.2.2 in1 dL_law_106 ?_
  refine xa_top (y := nI q) e1 ?_
  refine lv_aload_n hx hb dL_law_107 rfl (lv_at hl 3 rfl) ?_
  refine xl_L (ws := xc_W A K n (xmk V) (xmk TV) AG (xzk TO OP) (xbk OP NX) TK ++ xo_W ob kO f) (ws' := xc_W A K n (va_up (xmk V) j (xmk V j ||| 2 ^ k)) (xmk TV) (va_up AG j (TK + 1)) (va_up (xzk TO OP) o true) (va_up (xbk OP NX) q (96 + 16 * o + 0)) (TK + 1) ++ xo_W ob kO (vp_updL f 0 ((nI (96 + 16 * j + k)).toInt64))) (wr := xm_W A2 K2 th n V TV TO AG OP NX TK) (vx_runSW (As := [.ref (A 0), .int (nI q), .ref ob]) (rest := []) ⟨hx, hb, hml, hown, ht⟩ (h_take_open l D A K n (xmk V) (xmk TV) AG (xzk TO OP) (xbk OP NX) TK hn (fun j => xmk_lt V j) (fun j => xmk_lt TV j) q j k hq (by rw [(hI.blk q hq).1, hO, hN]) hj hk o ho ((xfr_t V TV TO OP o).trans ho1) (fun r hr => (xfr_t V TV TO OP r).trans (ho2 r hr)) ob kO f H.size) (vx_cwSW 3 ht (xg_SH kml_RL_43 kst_yL_take kin_RL kco_yL_take) rfl rfl rfl (by decide +kernel) ⟨Nat.le_of_ble_eq_true rfl, Nat.le_of_ble_eq_true rfl⟩) (xk_preM (xP_l hW.1) hKh (xD_l hW.2.1)) rfl rfl hl.1 rfl (lv_room (Nat.le_of_ble_eq_true rfl)) dL_law_108 ⟨by show 14 + T + 0 ≤ 601024; omega, by show 4900 + 6 * T + 0 ≤ 7293000; omega⟩) rfl hW (fun v9 H locs e9 hW => ?_)
  subst e9
  refine W.widen (k := 14 + (T + 1)) (n := 4900 + 6 * (T + 1)) (by omega) (by omega) ?_
  refine lv_istore (lv' := [(5, .int 0), (0, .ref b), (1, .ref (A 0)), (2, .ref (A2 0)), (3, .ref ob), (4, .int (nI i))]) hx hb dL_law_111 hl (by decide) rfl (fun ls hl => ?_)
  refine lv_aload_n hx hb dL_law_113 rfl (lv_at hl 3 rfl) ?_
  refine lv_aload_n hx hb dL_law_114 rfl (lv_at hl 1 rfl) ?_
  refine lv_iload hx hb dL_law_115 (lv_at hl 5 rfl) ?_
  refine lv_iconst (v := 1) hx hb dL_law_117 (by decide) ?_
  refine lv_iadd hx hb dL_law_118 ?_
  refine xa_top (y := nI (i + 1)) (nI_add i 1) ?_
  refine va_sld hx hb hX hbl hbA hW.2.2 in1 dL_law_119 ?_
  refine xa_top (y := nI q) e1 ?_
  refine xl_R (ws := xm_W A2 K2 th n V TV TO AG OP NX TK) (ws' := xm_W A2 K2 0 n (va_up V (16 * j + k) true) TV (va_up (va_up TO j true) o true) (va_up AG j (TK + 1)) (va_up OP q o) (va_up (va_up NX q (k + 1)) q 0) (TK + 1)) (wr := xc_W A K n (va_up (xmk V) j (xmk V j ||| 2 ^ k)) (xmk TV) (va_up AG j (TK + 1)) (va_up (xzk TO OP) o true) (va_up (xbk OP NX) q (96 + 16 * o + 0)) (TK + 1) ++ xo_W ob kO (vp_updL f 0 ((nI (96 + 16 * j + k)).toInt64))) (va_runV (As := [.int (nI q)]) (rest := []) ⟨hx, hb, hml, hown, ht⟩ (m_take_open l D A2 K2 th n V TV TO AG OP NX TK hn hI.op q j k hq hO hN hj hk o ho ho1 ho2 H.size) (cwV 1 ht (xg_V kml_RL_46 kim_yX1_take ksl_yX1_take kin_RX1 kco_yX1_take) rfl rfl rfl (by decide +kernel) ⟨Nat.le_of_ble_eq_true rfl, Nat.le_of_ble_eq_true rfl⟩) (xk_preMV (xP_r hW.1) hKm (xD_r hW.2.1) rfl rfl) rfl rfl hl.1 rfl (lv_room (Nat.le_of_ble_eq_true rfl)) dL_law_120 ⟨by show 14 + (T + 1) + 0 ≤ 601024; omega, by show 4900 + 6 * (T + 1) + 0 ≤ 7293000; omega⟩) rfl hW (fun v9 H locs e9 hW => ?_)
  subst e9
  refine W.widen (k := 14 + (T + 1)) (n := 4900 + 6 * (T + 1)) (by omega) (by omega) ?_
  refine lv_istore (lv' := [(6, .int (nI (96 + 16 * j + k))), (5, .int 0), (0, .ref b), (1, .ref (A 0)), (2, .ref (A2 0)), (3, .ref ob), (4, .int (nI i))]) hx hb dL_law_123 hl (by decide) rfl (fun ls hl => ?_)
  refine lv_aload_n hx hb dL_law_125 rfl (lv_at hl 4 rfl) ?_
  refine xr_V (n := 0) (As := []) (rest := []) ⟨hx, hb, hml, hown, ht⟩ (m_thrown l D A2 K2 0 n (va_up V (16 * j + k) true) TV (va_up (va_up TO j true) o true) (va_up AG j (TK + 1)) (va_up OP q o) (va_up (va_up NX q (k + 1)) q 0) (TK + 1)) (xg_V kml_RL_47 kim_yX1_thrown ksl_yX1_thrown kin_RX1 kco_yX1_thrown) ⟨rfl, rfl⟩ (by decide +kernel) ⟨Nat.le_of_ble_eq_true rfl, Nat.le_of_ble_eq_true rfl⟩ (xk_preV (xP_r hW.1) hKm rfl rfl) rfl hl.1 rfl (Nat.le_of_ble_eq_true rfl) dL_law_126 ⟨by show 14 + (T + 1) ≤ 601024; omega, by show 4900 + 6 * (T + 1) ≤ 7293000; omega⟩ (fun r8 e8 => ?_)
  subst e8
  refine lv_iload hx hb dL_law_129 (lv_at hl 1 rfl) ?_
  refine lv_icmp_eq (tgt := 136) hx hb dL_law_131 (by decide) (fun _ => ?_) (fun h => by first | exact absurd h (by decide) | exact absurd (by decide) h)
  refine lv_iload hx hb dL_law_136 (lv_at hl 1 rfl) ?_
  refine lv_if_ne (tgt := 153) hx hb dL_law_138 (by decide) (fun h => by first | exact absurd h (by decide) | exact absurd (by decide) h) (fun _ => ?_)
  refine lv_aload_n hx hb dL_law_141 rfl (lv_at hl 5 rfl) ?_
  refine lv_iconst (v := 0) hx hb dL_law_142 (by decide) ?_
  refine va_lald hx hb hKh (xP_l hW.1) 6 5 rfl rfl (i := 0) (vp_in_nI (n := 0) (by decide) (by decide)) dL_law_143 ?_
  refine lv_iload hx hb dL_law_144 (lv_at hl 0 rfl) ?_
  refine lv_i2l hx hb dL_law_146 rfl ?_
  refine W.lcmp hx hb dL_law_147 ?_
  refine lv_if_eq (tgt := 153) hx hb dL_law_148 (by decide) (fun _ => ?_) (fun h => absurd (by rw [xl_f0]; exact xl_cmp _) h)
  refine lv_goto (tgt := 459) hx hb dL_law_153 (by decide) ?_
  have hW : xL_S s D (xL_W A K n (va_up V (16 * j + k) true) TV (va_up (va_up TO j true) o true) (va_up AG j (TK + 1)) (va_up OP q o) (va_up (va_up NX q (k + 1)) q 0) (TK + 1) ob kO (vp_updL f 0 ((nI (96 + 16 * j + k)).toInt64)) A2 K2 0) H locs := by rw [xmk_set V j k (by omega), xzk_open TO OP q j o hq hO, xbk_open OP NX q k o hq] at hW; exact hW
  exact kk _ _ _ _ _ _ _ _ _ _ _ ls (hI.fresh hj (by omega) ho) hW (lv_sub hl [2, 3, 4, 5, 6] rfl)

set_option maxHeartbeats 4000000 in
set_option maxRecDepth 100000 in
/-- take, none to open -/
theorem l_take_full (C : xL_C p l s m meth c D b L xs K kO K2 sa) (hT : T ≤ 600) (hi : i + 2 < L) (hL : L ≤ 1537) (hI : xI n V TV TO AG OP NX TK T) (hW : xL_S s D (xL_W A K n V TV TO AG OP NX TK ob kO f A2 K2 th) H locs) (hl : lv_has ls 7 [(0, .ref b), (1, .ref (A 0)), (2, .ref (A2 0)), (3, .ref ob), (4, .int (nI i))]) (kk : xL_K p l e s m below meth c D b A K A2 K2 ob kO n T i) (q j k : Nat) (hq : q < 6) (e1 : xs (nI (i + 1)).toNatClampNeg = nI q) (hO : OP q = j) (hN : NX q = k) (hj : j < n) (hk : k = 15) (hf : ∀ r, r < n → xmfr V TV TO OP r = false) : W p l e room_1 s m #[Value.ref b] below meth c H locs (14 + T) (4900 + 6 * T) (lw_Z below #[Value.ref b] s) (F0 m 100 ls []) := by
  obtain ⟨⟨hx, hb, hr, hml, hown, hts, hX, hbl, hlocks, hgv⟩, hK, hXS, hl0, ht⟩ := C
  have hbA : ¬ (fun q : Nat => s.heap.size ≤ q) b := Nat.not_le.mpr hbl
  have hn : n ≤ 128 := hI.2.1
  have hKh : va_K D xcl (xc_T K ++ [(kO, .long)]) s := hK.sub [0, 1, 2, 3, 4, 5] rfl
  have hKc : va_K D xcl (xc_T K) s := hK.sub [0, 1, 2, 3, 4] rfl
  have hKm : va_K D xcl (xm_T K2) s := hK.sub [6, 7, 8, 9, 10, 11] rfl
  have in1 : vp_in (nI (i + 1)) L := vp_in_nI (by omega) (by omega)
  have in2 : vp_in (nI (i + 2)) L := vp_in_nI (by omega) (by omega)
  have hW : xL_S s D ((xc_W A K n (xmk V) (xmk TV) AG (xzk TO OP) (xbk OP NX) TK ++ xo_W ob kO f) ++ xm_W A2 K2 th n V TV TO AG OP NX TK) H locs := hW
  refine lv_aload_n hx hb dL_law_100 rfl (lv_at hl 1 rfl) ?_
  refine lv_aload_n hx hb dL_law_101 rfl (lv_at hl 0 rfl) ?_
  refine lv_iload hx hb dL_law_102 (lv_at hl 4 rfl) ?_
  refine lv_iconst (v := 1) hx hb dL_law_104 (by decide) ?_
  refine lv_iadd hx hb dL_law_105 ?_
  refine xa_top (y := nI (i + 1)) (nI_add i 1) ?_
  refine va_sld hx hb hX hbl hbA hW.2.2 in1 dL_law_106 ?_
  refine xa_top (y := nI q) e1 ?_
  refine lv_aload_n hx hb dL_law_107 rfl (lv_at hl 3 rfl) ?_
  refine xl_L (ws := xc_W A K n (xmk V) (xmk TV) AG (xzk TO OP) (xbk OP NX) TK ++ xo_W ob kO f) (ws' := xc_W A K n (xmk V) (xmk TV) AG (xzk TO OP) (xbk OP NX) TK ++ xo_W ob kO f) (wr := xm_W A2 K2 th n V TV TO AG OP NX TK) (vx_runSW (As := [.ref (A 0), .int (nI q), .ref ob]) (rest := []) ⟨hx, hb, hml, hown, ht⟩ (h_take_full l D A K n (xmk V) (xmk TV) AG (xzk TO OP) (xbk OP NX) TK hn (fun j => xmk_lt V j) (fun j => xmk_lt TV j) q j k hq (by rw [(hI.blk q hq).1, hO, hN]) hj hk (fun r hr => (xfr_t V TV TO OP r).trans (hf r hr)) ob kO f H.size s.heap.size sa hl0) (vx_cwSW 3 ht (xg_SH kml_RL_43 kst_yL_take kin_RL kco_yL_take) rfl rfl rfl (by decide +kernel) ⟨Nat.le_of_ble_eq_true rfl, Nat.le_of_ble_eq_true rfl⟩) (xk_preMX (xP_l hW.1) hKh (xD_l hW.2.1) hXS (xl_kept hW)) rfl rfl hl.1 rfl (lv_room (Nat.le_of_ble_eq_true rfl)) dL_law_108 ⟨by show 14 + T + 1 ≤ 601024; omega, by show 4900 + 6 * T + 6 ≤ 7293000; omega⟩) rfl hW (fun v9 H locs e9 hW => ?_)
  subst e9
  refine W.widen (k := 14 + (T + 1)) (n := 4900 + 6 * (T + 1)) (by omega) (by omega) ?_
  refine lv_istore (lv' := [(5, .int 2), (0, .ref b), (1, .ref (A 0)), (2, .ref (A2 0)), (3, .ref ob), (4, .int (nI i))]) hx hb dL_law_111 hl (by decide) rfl (fun ls hl => ?_)
  refine lv_aload_n hx hb dL_law_113 rfl (lv_at hl 3 rfl) ?_
  refine lv_aload_n hx hb dL_law_114 rfl (lv_at hl 1 rfl) ?_
  refine lv_iload hx hb dL_law_115 (lv_at hl 5 rfl) ?_
  refine lv_iconst (v := 1) hx hb dL_law_117 (by decide) ?_
  refine lv_iadd hx hb dL_law_118 ?_
  refine xa_top (y := nI (i + 1)) (nI_add i 1) ?_
  refine va_sld hx hb hX hbl hbA hW.2.2 in1 dL_law_119 ?_
  refine xa_top (y := nI q) e1 ?_
  refine xl_R (ws := xm_W A2 K2 th n V TV TO AG OP NX TK) (ws' := xm_W A2 K2 2 n V TV TO AG OP NX TK) (wr := xc_W A K n (xmk V) (xmk TV) AG (xzk TO OP) (xbk OP NX) TK ++ xo_W ob kO f) (va_runV (As := [.int (nI q)]) (rest := []) ⟨hx, hb, hml, hown, ht⟩ (m_take_full l D A2 K2 th n V TV TO AG OP NX TK hn hI.op q j k hq hO hN hk hf H.size) (cwV 1 ht (xg_V kml_RL_46 kim_yX1_take ksl_yX1_take kin_RX1 kco_yX1_take) rfl rfl rfl (by decide +kernel) ⟨Nat.le_of_ble_eq_true rfl, Nat.le_of_ble_eq_true rfl⟩) (xk_preMV (xP_r hW.1) hKm (xD_r hW.2.1) rfl rfl) rfl rfl hl.1 rfl (lv_room (Nat.le_of_ble_eq_true rfl)) dL_law_120 ⟨by show 14 + (T + 1) + 0 ≤ 601024; omega, by show 4900 + 6 * (T + 1) + 0 ≤ 7293000; omega⟩) rfl hW (fun v9 H locs e9 hW => ?_)
  obtain ⟨r9, e9⟩ := e9
  subst e9
  refine W.widen (k := 14 + (T + 1)) (n := 4900 + 6 * (T + 1)) (by omega) (by omega) ?_
  refine lv_istore (lv' := [(6, .int r9), (5, .int 2), (0, .ref b), (1, .ref (A 0)), (2, .ref (A2 0)), (3, .ref ob), (4, .int (nI i))]) hx hb dL_law_123 hl (by decide) rfl (fun ls hl => ?_)
  refine lv_aload_n hx hb dL_law_125 rfl (lv_at hl 4 rfl) ?_
  refine xr_V (n := 0) (As := []) (rest := []) ⟨hx, hb, hml, hown, ht⟩ (m_thrown l D A2 K2 2 n V TV TO AG OP NX TK) (xg_V kml_RL_47 kim_yX1_thrown ksl_yX1_thrown kin_RX1 kco_yX1_thrown) ⟨rfl, rfl⟩ (by decide +kernel) ⟨Nat.le_of_ble_eq_true rfl, Nat.le_of_ble_eq_true rfl⟩ (xk_preV (xP_r hW.1) hKm rfl rfl) rfl hl.1 rfl (Nat.le_of_ble_eq_true rfl) dL_law_126 ⟨by show 14 + (T + 1) ≤ 601024; omega, by show 4900 + 6 * (T + 1) ≤ 7293000; omega⟩ (fun r8 e8 => ?_)
  subst e8
  refine lv_iload hx hb dL_law_129 (lv_at hl 1 rfl) ?_
  refine lv_icmp_eq (tgt := 136) hx hb dL_law_131 (by decide) (fun _ => ?_) (fun h => by first | exact absurd h (by decide) | exact absurd (by decide) h)
  refine lv_iload hx hb dL_law_136 (lv_at hl 1 rfl) ?_
  refine lv_if_ne (tgt := 153) hx hb dL_law_138 (by decide) (fun _ => ?_) (fun h => by first | exact absurd h (by decide) | exact absurd (by decide) h)
  refine lv_goto (tgt := 459) hx hb dL_law_153 (by decide) ?_
  have hW : xL_S s D (xL_W A K n V TV TO AG OP NX TK ob kO f A2 K2 2) H locs := by exact hW
  exact kk _ _ _ _ _ _ _ _ _ _ _ ls (hI.more) hW (lv_sub hl [2, 3, 4, 5, 6] rfl)

set_option maxHeartbeats 4000000 in
set_option maxRecDepth 100000 in
/-- take, no such log -/
theorem l_take_bad (C : xL_C p l s m meth c D b L xs K kO K2 sa) (hT : T ≤ 600) (hi : i + 2 < L) (hL : L ≤ 1537) (hI : xI n V TV TO AG OP NX TK T) (hW : xL_S s D (xL_W A K n V TV TO AG OP NX TK ob kO f A2 K2 th) H locs) (hl : lv_has ls 7 [(0, .ref b), (1, .ref (A 0)), (2, .ref (A2 0)), (3, .ref ob), (4, .int (nI i))]) (kk : xL_K p l e s m below meth c D b A K A2 K2 ob kO n T i) (x : Int32) (e1 : xs (nI (i + 1)).toNatClampNeg = x) (hbad : ¬ ∃ j : Nat, j < 6 ∧ x = nI j) : W p l e room_1 s m #[Value.ref b] below meth c H locs (14 + T) (4900 + 6 * T) (lw_Z below #[Value.ref b] s) (F0 m 100 ls []) := by
  obtain ⟨⟨hx, hb, hr, hml, hown, hts, hX, hbl, hlocks, hgv⟩, hK, hXS, hl0, ht⟩ := C
  have hbA : ¬ (fun q : Nat => s.heap.size ≤ q) b := Nat.not_le.mpr hbl
  have hn : n ≤ 128 := hI.2.1
  have hKh : va_K D xcl (xc_T K ++ [(kO, .long)]) s := hK.sub [0, 1, 2, 3, 4, 5] rfl
  have hKc : va_K D xcl (xc_T K) s := hK.sub [0, 1, 2, 3, 4] rfl
  have hKm : va_K D xcl (xm_T K2) s := hK.sub [6, 7, 8, 9, 10, 11] rfl
  have in1 : vp_in (nI (i + 1)) L := vp_in_nI (by omega) (by omega)
  have in2 : vp_in (nI (i + 2)) L := vp_in_nI (by omega) (by omega)
  have hW : xL_S s D ((xc_W A K n (xmk V) (xmk TV) AG (xzk TO OP) (xbk OP NX) TK ++ xo_W ob kO f) ++ xm_W A2 K2 th n V TV TO AG OP NX TK) H locs := hW
  refine lv_aload_n hx hb dL_law_100 rfl (lv_at hl 1 rfl) ?_
  refine lv_aload_n hx hb dL_law_101 rfl (lv_at hl 0 rfl) ?_
  refine lv_iload hx hb dL_law_102 (lv_at hl 4 rfl) ?_
  refine lv_iconst (v := 1) hx hb dL_law_104 (by decide) ?_
  refine lv_iadd hx hb dL_law_105 ?_
  refine xa_top (y := nI (i + 1)) (nI_add i 1) ?_
  refine va_sld hx hb hX hbl hbA hW.2.2 in1 dL_law_106 ?_
  refine xa_top (y := x) e1 ?_
  refine lv_aload_n hx hb dL_law_107 rfl (lv_at hl 3 rfl) ?_
  refine xl_L (ws := xc_W A K n (xmk V) (xmk TV) AG (xzk TO OP) (xbk OP NX) TK ++ xo_W ob kO f) (ws' := xc_W A K n (xmk V) (xmk TV) AG (xzk TO OP) (xbk OP NX) TK ++ xo_W ob kO f) (wr := xm_W A2 K2 th n V TV TO AG OP NX TK) (vx_runSW (As := [.ref (A 0), .int x, .ref ob]) (rest := []) ⟨hx, hb, hml, hown, ht⟩ (h_take_bad l D A K n (xmk V) (xmk TV) AG (xzk TO OP) (xbk OP NX) TK x hbad ob kO f H.size s.heap.size sa hl0) (vx_cwSW 3 ht (xg_SH kml_RL_43 kst_yL_take kin_RL kco_yL_take) rfl rfl rfl (by decide +kernel) ⟨Nat.le_of_ble_eq_true rfl, Nat.le_of_ble_eq_true rfl⟩) (xk_preMX (xP_l hW.1) hKh (xD_l hW.2.1) hXS (xl_kept hW)) rfl rfl hl.1 rfl (lv_room (Nat.le_of_ble_eq_true rfl)) dL_law_108 ⟨by show 14 + T + 1 ≤ 601024; omega, by show 4900 + 6 * T + 6 ≤ 7293000; omega⟩) rfl hW (fun v9 H locs e9 hW => ?_)
  subst e9
  refine W.widen (k := 14 + (T + 1)) (n := 4900 + 6 * (T + 1)) (by omega) (by omega) ?_
  refine lv_istore (lv' := [(5, .int 1), (0, .ref b), (1, .ref (A 0)), (2, .ref (A2 0)), (3, .ref ob), (4, .int (nI i))]) hx hb dL_law_111 hl (by decide) rfl (fun ls hl => ?_)
  refine lv_aload_n hx hb dL_law_113 rfl (lv_at hl 3 rfl) ?_
  refine lv_aload_n hx hb dL_law_114 rfl (lv_at hl 1 rfl) ?_
  refine lv_iload hx hb dL_law_115 (lv_at hl 5 rfl) ?_
  refine lv_iconst (v := 1) hx hb dL_law_117 (by decide) ?_
  refine lv_iadd hx hb dL_law_118 ?_
  refine xa_top (y := nI (i + 1)) (nI_add i 1) ?_
  refine va_sld hx hb hX hbl hbA hW.2.2 in1 dL_law_119 ?_
  refine xa_top (y := x) e1 ?_
  refine xl_R (ws := xm_W A2 K2 th n V TV TO AG OP NX TK) (ws' := xm_W A2 K2 1 n V TV TO AG OP NX TK) (wr := xc_W A K n (xmk V) (xmk TV) AG (xzk TO OP) (xbk OP NX) TK ++ xo_W ob kO f) (va_runV (As := [.int x]) (rest := []) ⟨hx, hb, hml, hown, ht⟩ (m_take_bad l D A2 K2 th n V TV TO AG OP NX TK x hbad H.size) (cwV 1 ht (xg_V kml_RL_46 kim_yX1_take ksl_yX1_take kin_RX1 kco_yX1_take) rfl rfl rfl (by decide +kernel) ⟨Nat.le_of_ble_eq_true rfl, Nat.le_of_ble_eq_true rfl⟩) (xk_preMV (xP_r hW.1) hKm (xD_r hW.2.1) rfl rfl) rfl rfl hl.1 rfl (lv_room (Nat.le_of_ble_eq_true rfl)) dL_law_120 ⟨by show 14 + (T + 1) + 0 ≤ 601024; omega, by show 4900 + 6 * (T + 1) + 0 ≤ 7293000; omega⟩) rfl hW (fun v9 H locs e9 hW => ?_)
  obtain ⟨r9, e9⟩ := e9
  subst e9
  refine W.widen (k := 14 + (T + 1)) (n := 4900 + 6 * (T + 1)) (by omega) (by omega) ?_
  refine lv_istore (lv' := [(6, .int r9), (5, .int 1), (0, .ref b), (1, .ref (A 0)), (2, .ref (A2 0)), (3, .ref ob), (4, .int (nI i))]) hx hb dL_law_123 hl (by decide) rfl (fun ls hl => ?_)
  refine lv_aload_n hx hb dL_law_125 rfl (lv_at hl 4 rfl) ?_
  refine xr_V (n := 0) (As := []) (rest := []) ⟨hx, hb, hml, hown, ht⟩ (m_thrown l D A2 K2 1 n V TV TO AG OP NX TK) (xg_V kml_RL_47 kim_yX1_thrown ksl_yX1_thrown kin_RX1 kco_yX1_thrown) ⟨rfl, rfl⟩ (by decide +kernel) ⟨Nat.le_of_ble_eq_true rfl, Nat.le_of_ble_eq_true rfl⟩ (xk_preV (xP_r hW.1) hKm rfl rfl) rfl hl.1 rfl (Nat.le_of_ble_eq_true rfl) dL_law_126 ⟨by show 14 + (T + 1) ≤ 601024; omega, by show 4900 + 6 * (T + 1) ≤ 7293000; omega⟩ (fun r8 e8 => ?_)
  subst e8
  refine lv_iload hx hb dL_law_129 (lv_at hl 1 rfl) ?_
  refine lv_icmp_eq (tgt := 136) hx hb dL_law_131 (by decide) (fun _ => ?_) (fun h => by first | exact absurd h (by decide) | exact absurd (by decide) h)
  refine lv_iload hx hb dL_law_136 (lv_at hl 1 rfl) ?_
  refine lv_if_ne (tgt := 153) hx hb dL_law_138 (by decide) (fun _ => ?_) (fun h => by first | exact absurd h (by decide) | exact absurd (by decide) h)
  refine lv_goto (tgt := 459) hx hb dL_law_153 (by decide) ?_
  have hW : xL_S s D (xL_W A K n V TV TO AG OP NX TK ob kO f A2 K2 1) H locs := by exact hW
  exact kk _ _ _ _ _ _ _ _ _ _ _ ls (hI.more) hW (lv_sub hl [2, 3, 4, 5, 6] rfl)

set_option maxHeartbeats 4000000 in
set_option maxRecDepth 100000 in
/-- look -/
theorem l_look_ok (C : xL_C p l s m meth c D b L xs K kO K2 sa) (hT : T ≤ 600) (hi : i + 2 < L) (hL : L ≤ 1537) (hI : xI n V TV TO AG OP NX TK T) (hW : xL_S s D (xL_W A K n V TV TO AG OP NX TK ob kO f A2 K2 th) H locs) (hl : lv_has ls 7 [(0, .ref b), (1, .ref (A 0)), (2, .ref (A2 0)), (3, .ref ob), (4, .int (nI i))]) (kk : xL_K p l e s m below meth c D b A K A2 K2 ob kO n T i) (j v : Nat) (hj : j < n) (hv : v < 4) (e1 : xs (nI (i + 1)).toNatClampNeg = nI j) (e2 : xs (nI (i + 2)).toNatClampNeg = nI v) : W p l e room_1 s m #[Value.ref b] below meth c H locs (14 + T) (4900 + 6 * T) (lw_Z below #[Value.ref b] s) (F0 m 391 ls []) := by
  obtain ⟨⟨hx, hb, hr, hml, hown, hts, hX, hbl, hlocks, hgv⟩, hK, hXS, hl0, ht⟩ := C
  have hbA : ¬ (fun q : Nat => s.heap.size ≤ q) b := Nat.not_le.mpr hbl
  have hn : n ≤ 128 := hI.2.1
  have hKh : va_K D xcl (xc_T K ++ [(kO, .long)]) s := hK.sub [0, 1, 2, 3, 4, 5] rfl
  have hKc : va_K D xcl (xc_T K) s := hK.sub [0, 1, 2, 3, 4] rfl
  have hKm : va_K D xcl (xm_T K2) s := hK.sub [6, 7, 8, 9, 10, 11] rfl
  have in1 : vp_in (nI (i + 1)) L := vp_in_nI (by omega) (by omega)
  have in2 : vp_in (nI (i + 2)) L := vp_in_nI (by omega) (by omega)
  have hW : xL_S s D ((xc_W A K n (xmk V) (xmk TV) AG (xzk TO OP) (xbk OP NX) TK ++ xo_W ob kO f) ++ xm_W A2 K2 th n V TV TO AG OP NX TK) H locs := hW
  refine lv_aload_n hx hb dL_law_391 rfl (lv_at hl 1 rfl) ?_
  refine lv_aload_n hx hb dL_law_392 rfl (lv_at hl 0 rfl) ?_
  refine lv_iload hx hb dL_law_393 (lv_at hl 4 rfl) ?_
  refine lv_iconst (v := 1) hx hb dL_law_395 (by decide) ?_
  refine lv_iadd hx hb dL_law_396 ?_
  refine xa_top (y := nI (i + 1)) (nI_add i 1) ?_
  refine va_sld hx hb hX hbl hbA hW.2.2 in1 dL_law_397 ?_
  refine xa_top (y := nI j) e1 ?_
  refine lv_aload_n hx hb dL_law_398 rfl (lv_at hl 0 rfl) ?_
  refine lv_iload hx hb dL_law_399 (lv_at hl 4 rfl) ?_
  refine lv_iconst (v := 2) hx hb dL_law_401 (by decide) ?_
  refine lv_iadd hx hb dL_law_402 ?_
  refine xa_top (y := nI (i + 2)) (nI_add i 2) ?_
  refine va_sld hx hb hX hbl hbA hW.2.2 in2 dL_law_403 ?_
  refine xa_top (y := nI v) e2 ?_
  refine lv_aload_n hx hb dL_law_404 rfl (lv_at hl 3 rfl) ?_
  refine xl_L (ws := xc_W A K n (xmk V) (xmk TV) AG (xzk TO OP) (xbk OP NX) TK ++ xo_W ob kO f) (ws' := xc_W A K n (xmk V) (xmk TV) AG (xzk TO OP) (xbk OP NX) TK ++ xo_W ob kO (vp_updL f 0 ((xlk (xmk V) (xmk TV) AG (xzk TO OP) j v).toInt64))) (wr := xm_W A2 K2 th n V TV TO AG OP NX TK) (vx_runSW (As := [.ref (A 0), .int (nI j), .int (nI v), .ref ob]) (rest := []) ⟨hx, hb, hml, hown, ht⟩ (h_look_ok l D A K n (xmk V) (xmk TV) AG (xzk TO OP) (xbk OP NX) TK hn j v hj hv ob kO f H.size) (vx_cwSW 4 ht (xg_SH kml_RL_78 kst_yL_look kin_RL kco_yL_look) rfl rfl rfl (by decide +kernel) ⟨Nat.le_of_ble_eq_true rfl, Nat.le_of_ble_eq_true rfl⟩) (xk_preM (xP_l hW.1) hKh (xD_l hW.2.1)) rfl rfl hl.1 rfl (lv_room (Nat.le_of_ble_eq_true rfl)) dL_law_405 ⟨by show 14 + T + 0 ≤ 601024; omega, by show 4900 + 6 * T + 0 ≤ 7293000; omega⟩) rfl hW (fun v9 H locs e9 hW => ?_)
  subst e9
  refine W.widen (k := 14 + (T + 1)) (n := 4900 + 6 * (T + 1)) (by omega) (by omega) ?_
  refine lv_istore (lv' := [(5, .int 0), (0, .ref b), (1, .ref (A 0)), (2, .ref (A2 0)), (3, .ref ob), (4, .int (nI i))]) hx hb dL_law_408 hl (by decide) rfl (fun ls hl => ?_)
  refine lv_aload_n hx hb dL_law_410 rfl (lv_at hl 3 rfl) ?_
  refine lv_aload_n hx hb dL_law_411 rfl (lv_at hl 1 rfl) ?_
  refine lv_iload hx hb dL_law_412 (lv_at hl 5 rfl) ?_
  refine lv_iconst (v := 1) hx hb dL_law_414 (by decide) ?_
  refine lv_iadd hx hb dL_law_415 ?_
  refine xa_top (y := nI (i + 1)) (nI_add i 1) ?_
  refine va_sld hx hb hX hbl hbA hW.2.2 in1 dL_law_416 ?_
  refine xa_top (y := nI j) e1 ?_
  refine lv_aload_n hx hb dL_law_417 rfl (lv_at hl 1 rfl) ?_
  refine lv_iload hx hb dL_law_418 (lv_at hl 5 rfl) ?_
  refine lv_iconst (v := 2) hx hb dL_law_420 (by decide) ?_
  refine lv_iadd hx hb dL_law_421 ?_
  refine xa_top (y := nI (i + 2)) (nI_add i 2) ?_
  refine va_sld hx hb hX hbl hbA hW.2.2 in2 dL_law_422 ?_
  refine xa_top (y := nI v) e2 ?_
  refine xl_R (ws := xm_W A2 K2 th n V TV TO AG OP NX TK) (ws' := xm_W A2 K2 0 n V TV TO AG OP NX TK) (wr := xc_W A K n (xmk V) (xmk TV) AG (xzk TO OP) (xbk OP NX) TK ++ xo_W ob kO (vp_updL f 0 ((xlk (xmk V) (xmk TV) AG (xzk TO OP) j v).toInt64))) (va_runV (As := [.int (nI j), .int (nI v)]) (rest := []) ⟨hx, hb, hml, hown, ht⟩ (m_look_ok l D A2 K2 th n V TV TO AG OP NX TK hn hI.op j v hj hv H.size) (cwV 2 ht (xg_V kml_RL_81 kim_yX1_look ksl_yX1_look kin_RX1 kco_yX1_look) rfl rfl rfl (by decide +kernel) ⟨Nat.le_of_ble_eq_true rfl, Nat.le_of_ble_eq_true rfl⟩) (xk_preMV (xP_r hW.1) hKm (xD_r hW.2.1) rfl rfl) rfl rfl hl.1 rfl (lv_room (Nat.le_of_ble_eq_true rfl)) dL_law_423 ⟨by show 14 + (T + 1) + 0 ≤ 601024; omega, by show 4900 + 6 * (T + 1) + 0 ≤ 7293000; omega⟩) rfl hW (fun v9 H locs e9 hW => ?_)
  subst e9
  refine W.widen (k := 14 + (T + 1)) (n := 4900 + 6 * (T + 1)) (by omega) (by omega) ?_
  refine lv_istore (lv' := [(6, .int (xml V TV TO AG OP j v)), (5, .int 0), (0, .ref b), (1, .ref (A 0)), (2, .ref (A2 0)), (3, .ref ob), (4, .int (nI i))]) hx hb dL_law_426 hl (by decide) rfl (fun ls hl => ?_)
  refine lv_aload_n hx hb dL_law_428 rfl (lv_at hl 4 rfl) ?_
  refine xr_V (n := 0) (As := []) (rest := []) ⟨hx, hb, hml, hown, ht⟩ (m_thrown l D A2 K2 0 n V TV TO AG OP NX TK) (xg_V kml_RL_47 kim_yX1_thrown ksl_yX1_thrown kin_RX1 kco_yX1_thrown) ⟨rfl, rfl⟩ (by decide +kernel) ⟨Nat.le_of_ble_eq_true rfl, Nat.le_of_ble_eq_true rfl⟩ (xk_preV (xP_r hW.1) hKm rfl rfl) rfl hl.1 rfl (Nat.le_of_ble_eq_true rfl) dL_law_429 ⟨by show 14 + (T + 1) ≤ 601024; omega, by show 4900 + 6 * (T + 1) ≤ 7293000; omega⟩ (fun r8 e8 => ?_)
  subst e8
  refine lv_iload hx hb dL_law_432 (lv_at hl 1 rfl) ?_
  refine lv_icmp_eq (tgt := 439) hx hb dL_law_434 (by decide) (fun _ => ?_) (fun h => by first | exact absurd h (by decide) | exact absurd (by decide) h)
  refine lv_iload hx hb dL_law_439 (lv_at hl 1 rfl) ?_
  refine lv_if_ne (tgt := 456) hx hb dL_law_441 (by decide) (fun h => by first | exact absurd h (by decide) | exact absurd (by decide) h) (fun _ => ?_)
  refine lv_aload_n hx hb dL_law_444 rfl (lv_at hl 5 rfl) ?_
  refine lv_iconst (v := 0) hx hb dL_law_445 (by decide) ?_
  refine va_lald hx hb hKh (xP_l hW.1) 6 5 rfl rfl (i := 0) (vp_in_nI (n := 0) (by decide) (by decide)) dL_law_446 ?_
  refine lv_iload hx hb dL_law_447 (lv_at hl 0 rfl) ?_
  refine lv_i2l hx hb dL_law_449 rfl ?_
  refine W.lcmp hx hb dL_law_450 ?_
  refine lv_if_eq (tgt := 456) hx hb dL_law_451 (by decide) (fun _ => ?_) (fun h => absurd (by rw [xl_f0, xlk_tie]; exact xl_cmp _) h)
  refine lv_goto (tgt := 459) hx hb dL_law_456 (by decide) ?_
  have hW : xL_S s D (xL_W A K n V TV TO AG OP NX TK ob kO (vp_updL f 0 ((xlk (xmk V) (xmk TV) AG (xzk TO OP) j v).toInt64)) A2 K2 0) H locs := by exact hW
  exact kk _ _ _ _ _ _ _ _ _ _ _ ls (hI.more) hW (lv_sub hl [2, 3, 4, 5, 6] rfl)

set_option maxHeartbeats 4000000 in
set_option maxRecDepth 100000 in
/-- look, no such segment -/
theorem l_look_badS (C : xL_C p l s m meth c D b L xs K kO K2 sa) (hT : T ≤ 600) (hi : i + 2 < L) (hL : L ≤ 1537) (hI : xI n V TV TO AG OP NX TK T) (hW : xL_S s D (xL_W A K n V TV TO AG OP NX TK ob kO f A2 K2 th) H locs) (hl : lv_has ls 7 [(0, .ref b), (1, .ref (A 0)), (2, .ref (A2 0)), (3, .ref ob), (4, .int (nI i))]) (kk : xL_K p l e s m below meth c D b A K A2 K2 ob kO n T i) (x : Int32) (e1 : xs (nI (i + 1)).toNatClampNeg = x) (y : Int32) (e2 : xs (nI (i + 2)).toNatClampNeg = y) (hbad : ¬ ∃ j : Nat, j < n ∧ x = nI j) : W p l e room_1 s m #[Value.ref b] below meth c H locs (14 + T) (4900 + 6 * T) (lw_Z below #[Value.ref b] s) (F0 m 391 ls []) := by
  obtain ⟨⟨hx, hb, hr, hml, hown, hts, hX, hbl, hlocks, hgv⟩, hK, hXS, hl0, ht⟩ := C
  have hbA : ¬ (fun q : Nat => s.heap.size ≤ q) b := Nat.not_le.mpr hbl
  have hn : n ≤ 128 := hI.2.1
  have hKh : va_K D xcl (xc_T K ++ [(kO, .long)]) s := hK.sub [0, 1, 2, 3, 4, 5] rfl
  have hKc : va_K D xcl (xc_T K) s := hK.sub [0, 1, 2, 3, 4] rfl
  have hKm : va_K D xcl (xm_T K2) s := hK.sub [6, 7, 8, 9, 10, 11] rfl
  have in1 : vp_in (nI (i + 1)) L := vp_in_nI (by omega) (by omega)
  have in2 : vp_in (nI (i + 2)) L := vp_in_nI (by omega) (by omega)
  have hW : xL_S s D ((xc_W A K n (xmk V) (xmk TV) AG (xzk TO OP) (xbk OP NX) TK ++ xo_W ob kO f) ++ xm_W A2 K2 th n V TV TO AG OP NX TK) H locs := hW
  refine lv_aload_n hx hb dL_law_391 rfl (lv_at hl 1 rfl) ?_
  refine lv_aload_n hx hb dL_law_392 rfl (lv_at hl 0 rfl) ?_
  refine lv_iload hx hb dL_law_393 (lv_at hl 4 rfl) ?_
  refine lv_iconst (v := 1) hx hb dL_law_395 (by decide) ?_
  refine lv_iadd hx hb dL_law_396 ?_
  refine xa_top (y := nI (i + 1)) (nI_add i 1) ?_
  refine va_sld hx hb hX hbl hbA hW.2.2 in1 dL_law_397 ?_
  refine xa_top (y := x) e1 ?_
  refine lv_aload_n hx hb dL_law_398 rfl (lv_at hl 0 rfl) ?_
  refine lv_iload hx hb dL_law_399 (lv_at hl 4 rfl) ?_
  refine lv_iconst (v := 2) hx hb dL_law_401 (by decide) ?_
  refine lv_iadd hx hb dL_law_402 ?_
  refine xa_top (y := nI (i + 2)) (nI_add i 2) ?_
  refine va_sld hx hb hX hbl hbA hW.2.2 in2 dL_law_403 ?_
  refine xa_top (y := y) e2 ?_
  refine lv_aload_n hx hb dL_law_404 rfl (lv_at hl 3 rfl) ?_
  refine xl_L (ws := xc_W A K n (xmk V) (xmk TV) AG (xzk TO OP) (xbk OP NX) TK ++ xo_W ob kO f) (ws' := xc_W A K n (xmk V) (xmk TV) AG (xzk TO OP) (xbk OP NX) TK ++ xo_W ob kO f) (wr := xm_W A2 K2 th n V TV TO AG OP NX TK) (vx_runSW (As := [.ref (A 0), .int x, .int y, .ref ob]) (rest := []) ⟨hx, hb, hml, hown, ht⟩ (h_look_badS l D A K n (xmk V) (xmk TV) AG (xzk TO OP) (xbk OP NX) TK hn x y hbad ob kO f H.size s.heap.size sa hl0) (vx_cwSW 4 ht (xg_SH kml_RL_78 kst_yL_look kin_RL kco_yL_look) rfl rfl rfl (by decide +kernel) ⟨Nat.le_of_ble_eq_true rfl, Nat.le_of_ble_eq_true rfl⟩) (xk_preMX (xP_l hW.1) hKh (xD_l hW.2.1) hXS (xl_kept hW)) rfl rfl hl.1 rfl (lv_room (Nat.le_of_ble_eq_true rfl)) dL_law_405 ⟨by show 14 + T + 1 ≤ 601024; omega, by show 4900 + 6 * T + 6 ≤ 7293000; omega⟩) rfl hW (fun v9 H locs e9 hW => ?_)
  subst e9
  refine W.widen (k := 14 + (T + 1)) (n := 4900 + 6 * (T + 1)) (by omega) (by omega) ?_
  refine lv_istore (lv' := [(5, .int 1), (0, .ref b), (1, .ref (A 0)), (2, .ref (A2 0)), (3, .ref ob), (4, .int (nI i))]) hx hb dL_law_408 hl (by decide) rfl (fun ls hl => ?_)
  refine lv_aload_n hx hb dL_law_410 rfl (lv_at hl 3 rfl) ?_
  refine lv_aload_n hx hb dL_law_411 rfl (lv_at hl 1 rfl) ?_
  refine lv_iload hx hb dL_law_412 (lv_at hl 5 rfl) ?_
  refine lv_iconst (v := 1) hx hb dL_law_414 (by decide) ?_
  refine lv_iadd hx hb dL_law_415 ?_
  refine xa_top (y := nI (i + 1)) (nI_add i 1) ?_
  refine va_sld hx hb hX hbl hbA hW.2.2 in1 dL_law_416 ?_
  refine xa_top (y := x) e1 ?_
  refine lv_aload_n hx hb dL_law_417 rfl (lv_at hl 1 rfl) ?_
  refine lv_iload hx hb dL_law_418 (lv_at hl 5 rfl) ?_
  refine lv_iconst (v := 2) hx hb dL_law_420 (by decide) ?_
  refine lv_iadd hx hb dL_law_421 ?_
  refine xa_top (y := nI (i + 2)) (nI_add i 2) ?_
  refine va_sld hx hb hX hbl hbA hW.2.2 in2 dL_law_422 ?_
  refine xa_top (y := y) e2 ?_
  refine xl_R (ws := xm_W A2 K2 th n V TV TO AG OP NX TK) (ws' := xm_W A2 K2 1 n V TV TO AG OP NX TK) (wr := xc_W A K n (xmk V) (xmk TV) AG (xzk TO OP) (xbk OP NX) TK ++ xo_W ob kO f) (va_runV (As := [.int x, .int y]) (rest := []) ⟨hx, hb, hml, hown, ht⟩ (m_look_bad l D A2 K2 th n V TV TO AG OP NX TK hn x y (fun h => hbad h.1) H.size) (cwV 2 ht (xg_V kml_RL_81 kim_yX1_look ksl_yX1_look kin_RX1 kco_yX1_look) rfl rfl rfl (by decide +kernel) ⟨Nat.le_of_ble_eq_true rfl, Nat.le_of_ble_eq_true rfl⟩) (xk_preMV (xP_r hW.1) hKm (xD_r hW.2.1) rfl rfl) rfl rfl hl.1 rfl (lv_room (Nat.le_of_ble_eq_true rfl)) dL_law_423 ⟨by show 14 + (T + 1) + 0 ≤ 601024; omega, by show 4900 + 6 * (T + 1) + 0 ≤ 7293000; omega⟩) rfl hW (fun v9 H locs e9 hW => ?_)
  obtain ⟨r9, e9⟩ := e9
  subst e9
  refine W.widen (k := 14 + (T + 1)) (n := 4900 + 6 * (T + 1)) (by omega) (by omega) ?_
  refine lv_istore (lv' := [(6, .int r9), (5, .int 1), (0, .ref b), (1, .ref (A 0)), (2, .ref (A2 0)), (3, .ref ob), (4, .int (nI i))]) hx hb dL_law_426 hl (by decide) rfl (fun ls hl => ?_)
  refine lv_aload_n hx hb dL_law_428 rfl (lv_at hl 4 rfl) ?_
  refine xr_V (n := 0) (As := []) (rest := []) ⟨hx, hb, hml, hown, ht⟩ (m_thrown l D A2 K2 1 n V TV TO AG OP NX TK) (xg_V kml_RL_47 kim_yX1_thrown ksl_yX1_thrown kin_RX1 kco_yX1_thrown) ⟨rfl, rfl⟩ (by decide +kernel) ⟨Nat.le_of_ble_eq_true rfl, Nat.le_of_ble_eq_true rfl⟩ (xk_preV (xP_r hW.1) hKm rfl rfl) rfl hl.1 rfl (Nat.le_of_ble_eq_true rfl) dL_law_429 ⟨by show 14 + (T + 1) ≤ 601024; omega, by show 4900 + 6 * (T + 1) ≤ 7293000; omega⟩ (fun r8 e8 => ?_)
  subst e8
  refine lv_iload hx hb dL_law_432 (lv_at hl 1 rfl) ?_
  refine lv_icmp_eq (tgt := 439) hx hb dL_law_434 (by decide) (fun _ => ?_) (fun h => by first | exact absurd h (by decide) | exact absurd (by decide) h)
  refine lv_iload hx hb dL_law_439 (lv_at hl 1 rfl) ?_
  refine lv_if_ne (tgt := 456) hx hb dL_law_441 (by decide) (fun _ => ?_) (fun h => by first | exact absurd h (by decide) | exact absurd (by decide) h)
  refine lv_goto (tgt := 459) hx hb dL_law_456 (by decide) ?_
  have hW : xL_S s D (xL_W A K n V TV TO AG OP NX TK ob kO f A2 K2 1) H locs := by exact hW
  exact kk _ _ _ _ _ _ _ _ _ _ _ ls (hI.more) hW (lv_sub hl [2, 3, 4, 5, 6] rfl)

set_option maxHeartbeats 4000000 in
set_option maxRecDepth 100000 in
/-- look, no such thing -/
theorem l_look_badW (C : xL_C p l s m meth c D b L xs K kO K2 sa) (hT : T ≤ 600) (hi : i + 2 < L) (hL : L ≤ 1537) (hI : xI n V TV TO AG OP NX TK T) (hW : xL_S s D (xL_W A K n V TV TO AG OP NX TK ob kO f A2 K2 th) H locs) (hl : lv_has ls 7 [(0, .ref b), (1, .ref (A 0)), (2, .ref (A2 0)), (3, .ref ob), (4, .int (nI i))]) (kk : xL_K p l e s m below meth c D b A K A2 K2 ob kO n T i) (j : Nat) (hj : j < n) (e1 : xs (nI (i + 1)).toNatClampNeg = nI j) (y : Int32) (e2 : xs (nI (i + 2)).toNatClampNeg = y) (hbad : ¬ ∃ v : Nat, v < 4 ∧ y = nI v) : W p l e room_1 s m #[Value.ref b] below meth c H locs (14 + T) (4900 + 6 * T) (lw_Z below #[Value.ref b] s) (F0 m 391 ls []) := by
  obtain ⟨⟨hx, hb, hr, hml, hown, hts, hX, hbl, hlocks, hgv⟩, hK, hXS, hl0, ht⟩ := C
  have hbA : ¬ (fun q : Nat => s.heap.size ≤ q) b := Nat.not_le.mpr hbl
  have hn : n ≤ 128 := hI.2.1
  have hKh : va_K D xcl (xc_T K ++ [(kO, .long)]) s := hK.sub [0, 1, 2, 3, 4, 5] rfl
  have hKc : va_K D xcl (xc_T K) s := hK.sub [0, 1, 2, 3, 4] rfl
  have hKm : va_K D xcl (xm_T K2) s := hK.sub [6, 7, 8, 9, 10, 11] rfl
  have in1 : vp_in (nI (i + 1)) L := vp_in_nI (by omega) (by omega)
  have in2 : vp_in (nI (i + 2)) L := vp_in_nI (by omega) (by omega)
  have hW : xL_S s D ((xc_W A K n (xmk V) (xmk TV) AG (xzk TO OP) (xbk OP NX) TK ++ xo_W ob kO f) ++ xm_W A2 K2 th n V TV TO AG OP NX TK) H locs := hW
  refine lv_aload_n hx hb dL_law_391 rfl (lv_at hl 1 rfl) ?_
  refine lv_aload_n hx hb dL_law_392 rfl (lv_at hl 0 rfl) ?_
  refine lv_iload hx hb dL_law_393 (lv_at hl 4 rfl) ?_
  refine lv_iconst (v := 1) hx hb dL_law_395 (by decide) ?_
  refine lv_iadd hx hb dL_law_396 ?_
  refine xa_top (y := nI (i + 1)) (nI_add i 1) ?_
  refine va_sld hx hb hX hbl hbA hW.2.2 in1 dL_law_397 ?_
  refine xa_top (y := nI j) e1 ?_
  refine lv_aload_n hx hb dL_law_398 rfl (lv_at hl 0 rfl) ?_
  refine lv_iload hx hb dL_law_399 (lv_at hl 4 rfl) ?_
  refine lv_iconst (v := 2) hx hb dL_law_401 (by decide) ?_
  refine lv_iadd hx hb dL_law_402 ?_
  refine xa_top (y := nI (i + 2)) (nI_add i 2) ?_
  refine va_sld hx hb hX hbl hbA hW.2.2 in2 dL_law_403 ?_
  refine xa_top (y := y) e2 ?_
  refine lv_aload_n hx hb dL_law_404 rfl (lv_at hl 3 rfl) ?_
  refine xl_L (ws := xc_W A K n (xmk V) (xmk TV) AG (xzk TO OP) (xbk OP NX) TK ++ xo_W ob kO f) (ws' := xc_W A K n (xmk V) (xmk TV) AG (xzk TO OP) (xbk OP NX) TK ++ xo_W ob kO f) (wr := xm_W A2 K2 th n V TV TO AG OP NX TK) (vx_runSW (As := [.ref (A 0), .int (nI j), .int y, .ref ob]) (rest := []) ⟨hx, hb, hml, hown, ht⟩ (h_look_badW l D A K n (xmk V) (xmk TV) AG (xzk TO OP) (xbk OP NX) TK hn j hj y hbad ob kO f H.size s.heap.size sa hl0) (vx_cwSW 4 ht (xg_SH kml_RL_78 kst_yL_look kin_RL kco_yL_look) rfl rfl rfl (by decide +kernel) ⟨Nat.le_of_ble_eq_true rfl, Nat.le_of_ble_eq_true rfl⟩) (xk_preMX (xP_l hW.1) hKh (xD_l hW.2.1) hXS (xl_kept hW)) rfl rfl hl.1 rfl (lv_room (Nat.le_of_ble_eq_true rfl)) dL_law_405 ⟨by show 14 + T + 1 ≤ 601024; omega, by show 4900 + 6 * T + 6 ≤ 7293000; omega⟩) rfl hW (fun v9 H locs e9 hW => ?_)
  subst e9
  refine W.widen (k := 14 + (T + 1)) (n := 4900 + 6 * (T + 1)) (by omega) (by omega) ?_
  refine lv_istore (lv' := [(5, .int 1), (0, .ref b), (1, .ref (A 0)), (2, .ref (A2 0)), (3, .ref ob), (4, .int (nI i))]) hx hb dL_law_408 hl (by decide) rfl (fun ls hl => ?_)
  refine lv_aload_n hx hb dL_law_410 rfl (lv_at hl 3 rfl) ?_
  refine lv_aload_n hx hb dL_law_411 rfl (lv_at hl 1 rfl) ?_
  refine lv_iload hx hb dL_law_412 (lv_at hl 5 rfl) ?_
  refine lv_iconst (v := 1) hx hb dL_law_414 (by decide) ?_
  refine lv_iadd hx hb dL_law_415 ?_
  refine xa_top (y := nI (i + 1)) (nI_add i 1) ?_
  refine va_sld hx hb hX hbl hbA hW.2.2 in1 dL_law_416 ?_
  refine xa_top (y := nI j) e1 ?_
  refine lv_aload_n hx hb dL_law_417 rfl (lv_at hl 1 rfl) ?_
  refine lv_iload hx hb dL_law_418 (lv_at hl 5 rfl) ?_
  refine lv_iconst (v := 2) hx hb dL_law_420 (by decide) ?_
  refine lv_iadd hx hb dL_law_421 ?_
  refine xa_top (y := nI (i + 2)) (nI_add i 2) ?_
  refine va_sld hx hb hX hbl hbA hW.2.2 in2 dL_law_422 ?_
  refine xa_top (y := y) e2 ?_
  refine xl_R (ws := xm_W A2 K2 th n V TV TO AG OP NX TK) (ws' := xm_W A2 K2 1 n V TV TO AG OP NX TK) (wr := xc_W A K n (xmk V) (xmk TV) AG (xzk TO OP) (xbk OP NX) TK ++ xo_W ob kO f) (va_runV (As := [.int (nI j), .int y]) (rest := []) ⟨hx, hb, hml, hown, ht⟩ (m_look_bad l D A2 K2 th n V TV TO AG OP NX TK hn (nI j) y (fun h => hbad h.2) H.size) (cwV 2 ht (xg_V kml_RL_81 kim_yX1_look ksl_yX1_look kin_RX1 kco_yX1_look) rfl rfl rfl (by decide +kernel) ⟨Nat.le_of_ble_eq_true rfl, Nat.le_of_ble_eq_true rfl⟩) (xk_preMV (xP_r hW.1) hKm (xD_r hW.2.1) rfl rfl) rfl rfl hl.1 rfl (lv_room (Nat.le_of_ble_eq_true rfl)) dL_law_423 ⟨by show 14 + (T + 1) + 0 ≤ 601024; omega, by show 4900 + 6 * (T + 1) + 0 ≤ 7293000; omega⟩) rfl hW (fun v9 H locs e9 hW => ?_)
  obtain ⟨r9, e9⟩ := e9
  subst e9
  refine W.widen (k := 14 + (T + 1)) (n := 4900 + 6 * (T + 1)) (by omega) (by omega) ?_
  refine lv_istore (lv' := [(6, .int r9), (5, .int 1), (0, .ref b), (1, .ref (A 0)), (2, .ref (A2 0)), (3, .ref ob), (4, .int (nI i))]) hx hb dL_law_426 hl (by decide) rfl (fun ls hl => ?_)
  refine lv_aload_n hx hb dL_law_428 rfl (lv_at hl 4 rfl) ?_
  refine xr_V (n := 0) (As := []) (rest := []) ⟨hx, hb, hml, hown, ht⟩ (m_thrown l D A2 K2 1 n V TV TO AG OP NX TK) (xg_V kml_RL_47 kim_yX1_thrown ksl_yX1_thrown kin_RX1 kco_yX1_thrown) ⟨rfl, rfl⟩ (by decide +kernel) ⟨Nat.le_of_ble_eq_true rfl, Nat.le_of_ble_eq_true rfl⟩ (xk_preV (xP_r hW.1) hKm rfl rfl) rfl hl.1 rfl (Nat.le_of_ble_eq_true rfl) dL_law_429 ⟨by show 14 + (T + 1) ≤ 601024; omega, by show 4900 + 6 * (T + 1) ≤ 7293000; omega⟩ (fun r8 e8 => ?_)
  subst e8
  refine lv_iload hx hb dL_law_432 (lv_at hl 1 rfl) ?_
  refine lv_icmp_eq (tgt := 439) hx hb dL_law_434 (by decide) (fun _ => ?_) (fun h => by first | exact absurd h (by decide) | exact absurd (by decide) h)
  refine lv_iload hx hb dL_law_439 (lv_at hl 1 rfl) ?_
  refine lv_if_ne (tgt := 456) hx hb dL_law_441 (by decide) (fun _ => ?_) (fun h => by first | exact absurd h (by decide) | exact absurd (by decide) h)
  refine lv_goto (tgt := 459) hx hb dL_law_456 (by decide) ?_
  have hW : xL_S s D (xL_W A K n V TV TO AG OP NX TK ob kO f A2 K2 1) H locs := by exact hW
  exact kk _ _ _ _ _ _ _ _ _ _ _ ls (hI.more) hW (lv_sub hl [2, 3, 4, 5, 6] rfl)

set_option maxHeartbeats 4000000 in
set_option maxRecDepth 100000 in
/-- free -/
theorem l_free (C : xL_C p l s m meth c D b L xs K kO K2 sa) (hT : T ≤ 600) (hi : i + 2 < L) (hL : L ≤ 1537) (hI : xI n V TV TO AG OP NX TK T) (hW : xL_S s D (xL_W A K n V TV TO AG OP NX TK ob kO f A2 K2 th) H locs) (hl : lv_has ls 7 [(0, .ref b), (1, .ref (A 0)), (2, .ref (A2 0)), (3, .ref ob), (4, .int (nI i))]) (kk : xL_K p l e s m below meth c D b A K A2 K2 ob kO n T i) : W p l e room_1 s m #[Value.ref b] below meth c H locs (14 + T) (4900 + 6 * T) (lw_Z below #[Value.ref b] s) (F0 m 324 ls []) := by
  obtain ⟨⟨hx, hb, hr, hml, hown, hts, hX, hbl, hlocks, hgv⟩, hK, hXS, hl0, ht⟩ := C
  have hbA : ¬ (fun q : Nat => s.heap.size ≤ q) b := Nat.not_le.mpr hbl
  have hn : n ≤ 128 := hI.2.1
  have hKh : va_K D xcl (xc_T K ++ [(kO, .long)]) s := hK.sub [0, 1, 2, 3, 4, 5] rfl
  have hKc : va_K D xcl (xc_T K) s := hK.sub [0, 1, 2, 3, 4] rfl
  have hKm : va_K D xcl (xm_T K2) s := hK.sub [6, 7, 8, 9, 10, 11] rfl
  have in1 : vp_in (nI (i + 1)) L := vp_in_nI (by omega) (by omega)
  have in2 : vp_in (nI (i + 2)) L := vp_in_nI (by omega) (by omega)
  have hW : xL_S s D ((xc_W A K n (xmk V) (xmk TV) AG (xzk TO OP) (xbk OP NX) TK ++ xo_W ob kO f) ++ xm_W A2 K2 th n V TV TO AG OP NX TK) H locs := hW
  refine lv_aload_n hx hb dL_law_324 rfl (lv_at hl 1 rfl) ?_
  refine xr_V (n := 0) (As := []) (rest := []) ⟨hx, hb, hml, hown, ht⟩ (c_free l D A K n (xmk V) (xmk TV) AG (xzk TO OP) (xbk OP NX) TK hn (fun j => xmk_lt V j) (fun j => xmk_lt TV j)) (xg_V kml_RL_65 kim_yX0_free ksl_yX0_free kin_RX0 kco_yX0_free) ⟨rfl, rfl⟩ (by decide +kernel) ⟨Nat.le_of_ble_eq_true rfl, Nat.le_of_ble_eq_true rfl⟩ (xk_preV (xP_l (xP_l hW.1)) hKc rfl rfl) rfl hl.1 rfl (Nat.le_of_ble_eq_true rfl) dL_law_325 ⟨by show 14 + T ≤ 601024; omega, by show 4900 + 6 * T ≤ 7293000; omega⟩ (fun r8 e8 => ?_)
  subst e8
  refine lv_aload_n hx hb dL_law_328 rfl (lv_at hl 2 rfl) ?_
  refine xl_R (ws := xm_W A2 K2 th n V TV TO AG OP NX TK) (ws' := xm_W A2 K2 0 n V TV TO AG OP NX TK) (wr := xc_W A K n (xmk V) (xmk TV) AG (xzk TO OP) (xbk OP NX) TK ++ xo_W ob kO f) (va_runV (As := []) (rest := [.int (nI (xcnt (fun j => (xfr (xmk V) (xmk TV) (xzk TO OP) j).toNat) n))]) ⟨hx, hb, hml, hown, ht⟩ (m_free l D A2 K2 th n V TV TO AG OP NX TK hn hI.op H.size) (cwV 0 ht (xg_V kml_RL_68 kim_yX1_free ksl_yX1_free kin_RX1 kco_yX1_free) rfl rfl rfl (by decide +kernel) ⟨Nat.le_of_ble_eq_true rfl, Nat.le_of_ble_eq_true rfl⟩) (xk_preMV (xP_r hW.1) hKm (xD_r hW.2.1) rfl rfl) rfl rfl hl.1 rfl (lv_room (Nat.le_of_ble_eq_true rfl)) dL_law_329 ⟨by show 14 + T + 0 ≤ 601024; omega, by show 4900 + 6 * T + 0 ≤ 7293000; omega⟩) rfl hW (fun v9 H locs e9 hW => ?_)
  subst e9
  refine W.widen (k := 14 + (T + 1)) (n := 4900 + 6 * (T + 1)) (by omega) (by omega) ?_
  refine lv_icmp_eq (tgt := 459) hx hb dL_law_332 (by decide) (fun _ => ?_) (fun h => absurd (by rw [xcnt_fr]) h)
  have hW : xL_S s D (xL_W A K n V TV TO AG OP NX TK ob kO f A2 K2 0) H locs := by exact hW
  exact kk _ _ _ _ _ _ _ _ _ _ _ ls (hI.more) hW (lv_sub hl [0, 1, 2, 3, 4] rfl)

set_option maxHeartbeats 4000000 in
set_option maxRecDepth 100000 in
/-- used -/
theorem l_used (C : xL_C p l s m meth c D b L xs K kO K2 sa) (hT : T ≤ 600) (hi : i + 2 < L) (hL : L ≤ 1537) (hI : xI n V TV TO AG OP NX TK T) (hW : xL_S s D (xL_W A K n V TV TO AG OP NX TK ob kO f A2 K2 th) H locs) (hl : lv_has ls 7 [(0, .ref b), (1, .ref (A 0)), (2, .ref (A2 0)), (3, .ref ob), (4, .int (nI i))]) (kk : xL_K p l e s m below meth c D b A K A2 K2 ob kO n T i) : W p l e room_1 s m #[Value.ref b] below meth c H locs (14 + T) (4900 + 6 * T) (lw_Z below #[Value.ref b] s) (F0 m 337 ls []) := by
  obtain ⟨⟨hx, hb, hr, hml, hown, hts, hX, hbl, hlocks, hgv⟩, hK, hXS, hl0, ht⟩ := C
  have hbA : ¬ (fun q : Nat => s.heap.size ≤ q) b := Nat.not_le.mpr hbl
  have hn : n ≤ 128 := hI.2.1
  have hKh : va_K D xcl (xc_T K ++ [(kO, .long)]) s := hK.sub [0, 1, 2, 3, 4, 5] rfl
  have hKc : va_K D xcl (xc_T K) s := hK.sub [0, 1, 2, 3, 4] rfl
  have hKm : va_K D xcl (xm_T K2) s := hK.sub [6, 7, 8, 9, 10, 11] rfl
  have in1 : vp_in (nI (i + 1)) L := vp_in_nI (by omega) (by omega)
  have in2 : vp_in (nI (i + 2)) L := vp_in_nI (by omega) (by omega)
  have hW : xL_S s D ((xc_W A K n (xmk V) (xmk TV) AG (xzk TO OP) (xbk OP NX) TK ++ xo_W ob kO f) ++ xm_W A2 K2 th n V TV TO AG OP NX TK) H locs := hW
  refine lv_aload_n hx hb dL_law_337 rfl (lv_at hl 1 rfl) ?_
  refine xr_V (n := 0) (As := []) (rest := []) ⟨hx, hb, hml, hown, ht⟩ (c_used l D A K n (xmk V) (xmk TV) AG (xzk TO OP) (xbk OP NX) TK hn (fun j => xmk_lt V j) (fun j => xmk_lt TV j)) (xg_V kml_RL_69 kim_yX0_used ksl_yX0_used kin_RX0 kco_yX0_used) ⟨rfl, rfl⟩ (by decide +kernel) ⟨Nat.le_of_ble_eq_true rfl, Nat.le_of_ble_eq_true rfl⟩ (xk_preV (xP_l (xP_l hW.1)) hKc rfl rfl) rfl hl.1 rfl (Nat.le_of_ble_eq_true rfl) dL_law_338 ⟨by show 14 + T ≤ 601024; omega, by show 4900 + 6 * T ≤ 7293000; omega⟩ (fun r8 e8 => ?_)
  subst e8
  refine lv_aload_n hx hb dL_law_341 rfl (lv_at hl 2 rfl) ?_
  refine xl_R (ws := xm_W A2 K2 th n V TV TO AG OP NX TK) (ws' := xm_W A2 K2 0 n V TV TO AG OP NX TK) (wr := xc_W A K n (xmk V) (xmk TV) AG (xzk TO OP) (xbk OP NX) TK ++ xo_W ob kO f) (va_runV (As := []) (rest := [.int (nI (xcnt (fun j => xpc (xmk V j)) n))]) ⟨hx, hb, hml, hown, ht⟩ (m_used l D A2 K2 th n V TV TO AG OP NX TK hn hI.op H.size) (cwV 0 ht (xg_V kml_RL_72 kim_yX1_used ksl_yX1_used kin_RX1 kco_yX1_used) rfl rfl rfl (by decide +kernel) ⟨Nat.le_of_ble_eq_true rfl, Nat.le_of_ble_eq_true rfl⟩) (xk_preMV (xP_r hW.1) hKm (xD_r hW.2.1) rfl rfl) rfl rfl hl.1 rfl (lv_room (Nat.le_of_ble_eq_true rfl)) dL_law_342 ⟨by show 14 + T + 0 ≤ 601024; omega, by show 4900 + 6 * T + 0 ≤ 7293000; omega⟩) rfl hW (fun v9 H locs e9 hW => ?_)
  subst e9
  refine W.widen (k := 14 + (T + 1)) (n := 4900 + 6 * (T + 1)) (by omega) (by omega) ?_
  refine lv_icmp_eq (tgt := 459) hx hb dL_law_345 (by decide) (fun _ => ?_) (fun h => absurd (by rw [xcnt_mu]) h)
  have hW : xL_S s D (xL_W A K n V TV TO AG OP NX TK ob kO f A2 K2 0) H locs := by exact hW
  exact kk _ _ _ _ _ _ _ _ _ _ _ ls (hI.more) hW (lv_sub hl [0, 1, 2, 3, 4] rfl)

set_option maxHeartbeats 4000000 in
set_option maxRecDepth 100000 in
/-- checkpoint -/
theorem l_checkpoint (C : xL_C p l s m meth c D b L xs K kO K2 sa) (hT : T ≤ 600) (hi : i + 2 < L) (hL : L ≤ 1537) (hI : xI n V TV TO AG OP NX TK T) (hW : xL_S s D (xL_W A K n V TV TO AG OP NX TK ob kO f A2 K2 th) H locs) (hl : lv_has ls 7 [(0, .ref b), (1, .ref (A 0)), (2, .ref (A2 0)), (3, .ref ob), (4, .int (nI i))]) (kk : xL_K p l e s m below meth c D b A K A2 K2 ob kO n T i) : W p l e room_1 s m #[Value.ref b] below meth c H locs (14 + T) (4900 + 6 * T) (lw_Z below #[Value.ref b] s) (F0 m 311 ls []) := by
  obtain ⟨⟨hx, hb, hr, hml, hown, hts, hX, hbl, hlocks, hgv⟩, hK, hXS, hl0, ht⟩ := C
  have hbA : ¬ (fun q : Nat => s.heap.size ≤ q) b := Nat.not_le.mpr hbl
  have hn : n ≤ 128 := hI.2.1
  have hKh : va_K D xcl (xc_T K ++ [(kO, .long)]) s := hK.sub [0, 1, 2, 3, 4, 5] rfl
  have hKc : va_K D xcl (xc_T K) s := hK.sub [0, 1, 2, 3, 4] rfl
  have hKm : va_K D xcl (xm_T K2) s := hK.sub [6, 7, 8, 9, 10, 11] rfl
  have in1 : vp_in (nI (i + 1)) L := vp_in_nI (by omega) (by omega)
  have in2 : vp_in (nI (i + 2)) L := vp_in_nI (by omega) (by omega)
  have hW : xL_S s D ((xc_W A K n (xmk V) (xmk TV) AG (xzk TO OP) (xbk OP NX) TK ++ xo_W ob kO f) ++ xm_W A2 K2 th n V TV TO AG OP NX TK) H locs := hW
  refine lv_aload_n hx hb dL_law_311 rfl (lv_at hl 1 rfl) ?_
  refine xl_LL (ws := xc_W A K n (xmk V) (xmk TV) AG (xzk TO OP) (xbk OP NX) TK) (ws' := xc_W A K n (xmk V) (xmk V) AG (xop OP 6) (xbk OP NX) TK) (w2 := xo_W ob kO f) (wr := xm_W A2 K2 th n V TV TO AG OP NX TK) (va_runV (As := []) (rest := []) ⟨hx, hb, hml, hown, ht⟩ (c_checkpoint l D A K n (xmk V) (xmk TV) AG (xzk TO OP) (xbk OP NX) TK OP NX hn (fun j => xmk_lt V j) hI.blk hI.far H.size) (cwV 0 ht (xg_V kml_RL_61 kim_yX0_checkpoint ksl_yX0_checkpoint kin_RX0 kco_yX0_checkpoint) rfl rfl rfl (by decide +kernel) ⟨Nat.le_of_ble_eq_true rfl, Nat.le_of_ble_eq_true rfl⟩) (xk_preMV (xP_l (xP_l hW.1)) hKc (xD_l (xD_l hW.2.1)) rfl rfl) rfl rfl hl.1 rfl (lv_room (Nat.le_of_ble_eq_true rfl)) dL_law_312 ⟨by show 14 + T + 0 ≤ 601024; omega, by show 4900 + 6 * T + 0 ≤ 7293000; omega⟩) rfl hW (fun v9 H locs e9 hW => ?_)
  subst e9
  refine W.widen (k := 14 + (T + 1)) (n := 4900 + 6 * (T + 1)) (by omega) (by omega) ?_
  refine lv_aload_n hx hb dL_law_315 rfl (lv_at hl 2 rfl) ?_
  refine xl_R (ws := xm_W A2 K2 th n V TV TO AG OP NX TK) (ws' := xm_W A2 K2 0 n V V (fun _ => false) AG OP NX TK) (wr := xc_W A K n (xmk V) (xmk V) AG (xop OP 6) (xbk OP NX) TK ++ xo_W ob kO f) (va_runV (As := []) (rest := [.int (nI (xcnt (fun j => (xfr (xmk V) (xmk V) (xop OP 6) j).toNat) n))]) ⟨hx, hb, hml, hown, ht⟩ (m_checkpoint l D A2 K2 th n V TV TO AG OP NX TK hn hI.op hI.farV hI.farT H.size) (cwV 0 ht (xg_V kml_RL_64 kim_yX1_checkpoint ksl_yX1_checkpoint kin_RX1 kco_yX1_checkpoint) rfl rfl rfl (by decide +kernel) ⟨Nat.le_of_ble_eq_true rfl, Nat.le_of_ble_eq_true rfl⟩) (xk_preMV (xP_r hW.1) hKm (xD_r hW.2.1) rfl rfl) rfl rfl hl.1 rfl (lv_room (Nat.le_of_ble_eq_true rfl)) dL_law_316 ⟨by show 14 + (T + 1) + 0 ≤ 601024; omega, by show 4900 + 6 * (T + 1) + 0 ≤ 7293000; omega⟩) rfl hW (fun v9 H locs e9 hW => ?_)
  subst e9
  refine W.widen (k := 14 + (T + 1)) (n := 4900 + 6 * (T + 1)) (by omega) (by omega) ?_
  refine lv_icmp_eq (tgt := 459) hx hb dL_law_319 (by decide) (fun _ => ?_) (fun h => absurd (by rw [xzk_op, xcnt_fr]) h)
  have hW : xL_S s D (xL_W A K n V V (fun _ => false) AG OP NX TK ob kO f A2 K2 0) H locs := by rw [xzk_op] at hW; exact hW
  exact kk _ _ _ _ _ _ _ _ _ _ _ ls (hI.check) hW (lv_sub hl [0, 1, 2, 3, 4] rfl)

set_option maxHeartbeats 4000000 in
set_option maxRecDepth 100000 in
/-- victim -/
theorem l_victim (C : xL_C p l s m meth c D b L xs K kO K2 sa) (hT : T ≤ 600) (hi : i + 2 < L) (hL : L ≤ 1537) (hI : xI n V TV TO AG OP NX TK T) (hW : xL_S s D (xL_W A K n V TV TO AG OP NX TK ob kO f A2 K2 th) H locs) (hl : lv_has ls 7 [(0, .ref b), (1, .ref (A 0)), (2, .ref (A2 0)), (3, .ref ob), (4, .int (nI i))]) (kk : xL_K p l e s m below meth c D b A K A2 K2 ob kO n T i) : W p l e room_1 s m #[Value.ref b] below meth c H locs (14 + T) (4900 + 6 * T) (lw_Z below #[Value.ref b] s) (F0 m 350 ls []) := by
  obtain ⟨⟨hx, hb, hr, hml, hown, hts, hX, hbl, hlocks, hgv⟩, hK, hXS, hl0, ht⟩ := C
  have hbA : ¬ (fun q : Nat => s.heap.size ≤ q) b := Nat.not_le.mpr hbl
  have hn : n ≤ 128 := hI.2.1
  have hKh : va_K D xcl (xc_T K ++ [(kO, .long)]) s := hK.sub [0, 1, 2, 3, 4, 5] rfl
  have hKc : va_K D xcl (xc_T K) s := hK.sub [0, 1, 2, 3, 4] rfl
  have hKm : va_K D xcl (xm_T K2) s := hK.sub [6, 7, 8, 9, 10, 11] rfl
  have in1 : vp_in (nI (i + 1)) L := vp_in_nI (by omega) (by omega)
  have in2 : vp_in (nI (i + 2)) L := vp_in_nI (by omega) (by omega)
  have hW : xL_S s D ((xc_W A K n (xmk V) (xmk TV) AG (xzk TO OP) (xbk OP NX) TK ++ xo_W ob kO f) ++ xm_W A2 K2 th n V TV TO AG OP NX TK) H locs := hW
  refine lv_aload_n hx hb dL_law_350 rfl (lv_at hl 1 rfl) ?_
  refine lv_aload_n hx hb dL_law_351 rfl (lv_at hl 0 rfl) ?_
  refine lv_iload hx hb dL_law_352 (lv_at hl 4 rfl) ?_
  refine lv_iconst (v := 1) hx hb dL_law_354 (by decide) ?_
  refine lv_iadd hx hb dL_law_355 ?_
  have hTK : TK ≤ 100000 := by have := hI.2.2.2.2.2.2; omega
  have hAG := hI.2.2.2.2.2.1
  refine xa_top (y := nI (i + 1)) (nI_add i 1) ?_
  refine va_sld hx hb hX hbl hbA hW.2.2 in1 dL_law_356 ?_
  refine xa_top (y := xs (nI (i + 1)).toNatClampNeg) rfl ?_
  refine lv_if_eq (tgt := 364) hx hb dL_law_357 (by decide) (fun h1 => ?_) (fun h1 => ?_)
  · refine lv_iconst (v := 0) hx hb dL_law_364 (by decide) ?_
    refine xa_top (y := xb false) rfl ?_
    refine xr_V (n := 1) (As := [.int (xb false)]) (rest := []) ⟨hx, hb, hml, hown, ht⟩ (c_victim l D A K n (xmk V) (xmk TV) AG (xzk TO OP) (xbk OP NX) TK hn (fun j => xmk_lt V j) hAG hTK false) (xg_V kml_RL_73 kim_yX0_victim ksl_yX0_victim kin_RX0 kco_yX0_victim) ⟨rfl, rfl⟩ (by decide +kernel) ⟨Nat.le_of_ble_eq_true rfl, Nat.le_of_ble_eq_true rfl⟩ (xk_preV (xP_l (xP_l hW.1)) hKc rfl rfl) rfl hl.1 rfl (Nat.le_of_ble_eq_true rfl) dL_law_365 ⟨by show 14 + T ≤ 601024; omega, by show 4900 + 6 * T ≤ 7293000; omega⟩ (fun r8 e8 => ?_)
    subst e8
    refine lv_aload_n hx hb dL_law_368 rfl (lv_at hl 2 rfl) ?_
    refine lv_aload_n hx hb dL_law_369 rfl (lv_at hl 0 rfl) ?_
    refine lv_iload hx hb dL_law_370 (lv_at hl 4 rfl) ?_
    refine lv_iconst (v := 1) hx hb dL_law_372 (by decide) ?_
    refine lv_iadd hx hb dL_law_373 ?_
    refine xa_top (y := nI (i + 1)) (nI_add i 1) ?_
    refine va_sld hx hb hX hbl hbA hW.2.2 in1 dL_law_374 ?_
    refine xa_top (y := xs (nI (i + 1)).toNatClampNeg) rfl ?_
    refine lv_if_eq (tgt := 382) hx hb dL_law_375 (by decide) (fun _ => ?_) (fun h => absurd h1 h)
    refine lv_iconst (v := 0) hx hb dL_law_382 (by decide) ?_
    refine xa_top (y := xb false) rfl ?_
    refine xl_R (ws := xm_W A2 K2 th n V TV TO AG OP NX TK) (ws' := xm_W A2 K2 0 n V TV TO AG OP NX TK) (wr := xc_W A K n (xmk V) (xmk TV) AG (xzk TO OP) (xbk OP NX) TK ++ xo_W ob kO f) (va_runV (As := [.int (xb false)]) (rest := [.int (xvR (xvic (xcand (xmk V) (xzk TO OP)) (xwo false (xmk V) AG TK) n))]) ⟨hx, hb, hml, hown, ht⟩ (m_victim l D A2 K2 th n V TV TO AG OP NX TK hn hI.op hAG hTK false H.size) (cwV 1 ht (xg_V kml_RL_77 kim_yX1_victim ksl_yX1_victim kin_RX1 kco_yX1_victim) rfl rfl rfl (by decide +kernel) ⟨Nat.le_of_ble_eq_true rfl, Nat.le_of_ble_eq_true rfl⟩) (xk_preMV (xP_r hW.1) hKm (xD_r hW.2.1) rfl rfl) rfl rfl hl.1 rfl (lv_room (Nat.le_of_ble_eq_true rfl)) dL_law_383 ⟨by show 14 + T + 0 ≤ 601024; omega, by show 4900 + 6 * T + 0 ≤ 7293000; omega⟩) rfl hW (fun v9 H locs e9 hW => ?_)
    subst e9
    refine W.widen (k := 14 + (T + 1)) (n := 4900 + 6 * (T + 1)) (by omega) (by omega) ?_
    refine lv_icmp_eq (tgt := 459) hx hb dL_law_386 (by decide) (fun _ => ?_) (fun h => absurd (by rw [xvic_tie]) h)
    have hW : xL_S s D (xL_W A K n V TV TO AG OP NX TK ob kO f A2 K2 0) H locs := by exact hW
    exact kk _ _ _ _ _ _ _ _ _ _ _ ls (hI.more) hW (lv_sub hl [0, 1, 2, 3, 4] rfl)
  · refine lv_iconst (v := 1) hx hb dL_law_360 (by decide) ?_
    refine lv_goto (tgt := 365) hx hb dL_law_361 (by decide) ?_
    refine xa_top (y := xb true) rfl ?_
    refine xr_V (n := 1) (As := [.int (xb true)]) (rest := []) ⟨hx, hb, hml, hown, ht⟩ (c_victim l D A K n (xmk V) (xmk TV) AG (xzk TO OP) (xbk OP NX) TK hn (fun j => xmk_lt V j) hAG hTK true) (xg_V kml_RL_73 kim_yX0_victim ksl_yX0_victim kin_RX0 kco_yX0_victim) ⟨rfl, rfl⟩ (by decide +kernel) ⟨Nat.le_of_ble_eq_true rfl, Nat.le_of_ble_eq_true rfl⟩ (xk_preV (xP_l (xP_l hW.1)) hKc rfl rfl) rfl hl.1 rfl (Nat.le_of_ble_eq_true rfl) dL_law_365 ⟨by show 14 + T ≤ 601024; omega, by show 4900 + 6 * T ≤ 7293000; omega⟩ (fun r8 e8 => ?_)
    subst e8
    refine lv_aload_n hx hb dL_law_368 rfl (lv_at hl 2 rfl) ?_
    refine lv_aload_n hx hb dL_law_369 rfl (lv_at hl 0 rfl) ?_
    refine lv_iload hx hb dL_law_370 (lv_at hl 4 rfl) ?_
    refine lv_iconst (v := 1) hx hb dL_law_372 (by decide) ?_
    refine lv_iadd hx hb dL_law_373 ?_
    refine xa_top (y := nI (i + 1)) (nI_add i 1) ?_
    refine va_sld hx hb hX hbl hbA hW.2.2 in1 dL_law_374 ?_
    refine xa_top (y := xs (nI (i + 1)).toNatClampNeg) rfl ?_
    refine lv_if_eq (tgt := 382) hx hb dL_law_375 (by decide) (fun h => absurd h h1) (fun _ => ?_)
    refine lv_iconst (v := 1) hx hb dL_law_378 (by decide) ?_
    refine lv_goto (tgt := 383) hx hb dL_law_379 (by decide) ?_
    refine xa_top (y := xb true) rfl ?_
    refine xl_R (ws := xm_W A2 K2 th n V TV TO AG OP NX TK) (ws' := xm_W A2 K2 0 n V TV TO AG OP NX TK) (wr := xc_W A K n (xmk V) (xmk TV) AG (xzk TO OP) (xbk OP NX) TK ++ xo_W ob kO f) (va_runV (As := [.int (xb true)]) (rest := [.int (xvR (xvic (xcand (xmk V) (xzk TO OP)) (xwo true (xmk V) AG TK) n))]) ⟨hx, hb, hml, hown, ht⟩ (m_victim l D A2 K2 th n V TV TO AG OP NX TK hn hI.op hAG hTK true H.size) (cwV 1 ht (xg_V kml_RL_77 kim_yX1_victim ksl_yX1_victim kin_RX1 kco_yX1_victim) rfl rfl rfl (by decide +kernel) ⟨Nat.le_of_ble_eq_true rfl, Nat.le_of_ble_eq_true rfl⟩) (xk_preMV (xP_r hW.1) hKm (xD_r hW.2.1) rfl rfl) rfl rfl hl.1 rfl (lv_room (Nat.le_of_ble_eq_true rfl)) dL_law_383 ⟨by show 14 + T + 0 ≤ 601024; omega, by show 4900 + 6 * T + 0 ≤ 7293000; omega⟩) rfl hW (fun v9 H locs e9 hW => ?_)
    subst e9
    refine W.widen (k := 14 + (T + 1)) (n := 4900 + 6 * (T + 1)) (by omega) (by omega) ?_
    refine lv_icmp_eq (tgt := 459) hx hb dL_law_386 (by decide) (fun _ => ?_) (fun h => absurd (by rw [xvic_tie]) h)
    have hW : xL_S s D (xL_W A K n V TV TO AG OP NX TK ob kO f A2 K2 0) H locs := by exact hW
    exact kk _ _ _ _ _ _ _ _ _ _ _ ls (hI.more) hW (lv_sub hl [0, 1, 2, 3, 4] rfl)
end LAW
