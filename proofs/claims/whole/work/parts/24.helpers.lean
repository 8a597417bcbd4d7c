set_option maxHeartbeats 4000000 in
set_option maxRecDepth 100000 in
/-- cell(script, 0) -/
theorem h_cell (l : Launch) (b L : Nat) (xs : Nat → Int32) (hL : L < 2 ^ 31) : Met l yL_cell (xw yL_cell cL_cell 2 (some .int)) ({ frames := 0, cells := 0, slots := 0, locals := 0 }) (va_Pc [.ref b, .int 0] (fun U => va_X b L xs U U.heap)) (vp_Si (fun r => r = if 0 < L then xs 0 else 0)) 0 0 (fun _ => False) := by
  refine Met.ofW (cc := cL_cell) (maxL := 2) (ret := (some .int)) (by decide) rfl ?_
  intro p e s m args below meth c s₁ B0 hml hv
  obtain ⟨rfl, hX⟩ := hv
  have hx := B0.exec
  have hb := B0.bytes
  have hr := B0.returns
  have hlocks := B0.notSynchronized
  have hbl : b < s.heap.size := by obtain ⟨scr, h1, -⟩ := hX; exact (Array.getElem?_eq_some_iff.mp h1).1
  have hS : va_S (fun _ => False) s.heap s.heap [] := va_S.rf
  have hl := lv_entry ([.ref b, .int 0]) (n := 2) (Nat.le_of_ble_eq_true rfl)
  rw [lg_entry_eq]
  generalize (lg_sl ([.ref b, .int 0]) ++ List.replicate (2 - (lg_sl ([.ref b, .int 0])).length) Slot.unset).toArray = ls at hl ⊢
  have hl : lv_has ls 2 [(0, .ref b), (1, .int 0)] := hl
  refine lv_iload_n hx hb dL_cell_0 rfl (lv_at hl 1 rfl) ?_
  refine lv_aload_n hx hb dL_cell_1 rfl (lv_at hl 0 rfl) ?_
  refine va_slen (A := fun _ => False) hx hb hX hbl id hS dL_cell_2 ?_
  refine lv_icmp_ge (tgt := 12) hx hb dL_cell_3 (by decide) (fun h1 => ?_) (fun h1 => ?_)
  · have hz : L = 0 := by
      rcases Nat.eq_zero_or_pos L with q | q
      · exact q
      · exact absurd h1 (nI_nle q hL)
    refine lv_iconst (v := 0) hx hb dL_cell_12 (by decide) ?_
    exact W.iret (v := 0) hx hb hr (fun t ht hW => ⟨0, rfl, (by rw [hz]; rfl), ht⟩) (fun _ h => by cases h) dL_cell_13
  · have hz : 0 < L := by
      rcases Nat.eq_zero_or_pos L with q | q
      · exact absurd (by rw [q]; decide) h1
      · exact q
    refine lv_aload_n hx hb dL_cell_6 rfl (lv_at hl 0 rfl) ?_
    refine lv_iload_n hx hb dL_cell_7 rfl (lv_at hl 1 rfl) ?_
    refine va_sld (A := fun _ => False) hx hb hX hbl id hS (vp_in_nI (n := 0) hz hL) dL_cell_8 ?_
    refine lv_goto (tgt := 13) hx hb dL_cell_9 (by decide) ?_
    exact W.iret (v := xs 0) hx hb hr (fun t ht hW => ⟨xs 0, rfl, (by rw [if_pos hz]), ht⟩) (fun _ h => by cases h) dL_cell_13

set_option maxHeartbeats 4000000 in
set_option maxRecDepth 100000 in
/-- next -/
theorem h_next_ok (l : Launch) (D : va_G) (A : Nat → Nat) (K : Nat → ClassId) (n : Nat) (U TH AG : Nat → Nat) (Z : Nat → Bool) (B : Nat → Nat) (TK : Nat) (q : Nat) (hq : q < 6) (ob : Nat) (kO : ClassId) (f : Nat → Int64) (sz : Nat) : Met l yL_next (xwH yL_next cL_next 4 (some .int) [(0, 9, 12, 13)]) ({ frames := 2, cells := 0, slots := 0, locals := 41 }) (xk_M [.ref (A 0), .int (nI q), .ref ob] D (xc_T K ++ [(kO, .long)]) (xc_W A K n U TH AG Z B TK ++ xo_W ob kO f) sz) (xk_Q (fun v => v = some (.int 0)) D (xc_W A K n U TH AG Z B TK ++ xo_W ob kO f) (xc_W A K n U TH AG Z B TK ++ xo_W ob kO (vp_updL f 0 ((nI (B q)).toInt64)))) 0 0 (va_A (xc_W A K n U TH AG Z B TK ++ xo_W ob kO f) sz) := by
  refine xt_ofWith (cc := cL_next) (maxL := 4) (ret := some .int) (hs := [(0, 9, 12, 13)]) (by decide) rfl ?_
  intro p e s m args below meth c s₁ B0 hml htab hv
  obtain ⟨rfl, hsz, hP, hK, hD0⟩ := hv
  have hx := B0.exec
  have hb := B0.bytes
  have hr := B0.returns
  have ht : ∀ w ∈ xT, w.before _ s = true := fun w h => atoms_spec (ws := xwH yL_next cL_next 4 (some .int) [(0, 9, 12, 13)]) B0.pre w (List.mem_cons_of_mem _ h)
  have hown : s.vm.findClass RL = some m.cls := findClass_of_methodNamed B0.named
  have hlocks := B0.notSynchronized
  subst hsz
  have hD := hD0.self (sz := s.heap.size)
  have hA : ∀ q : Nat, s.heap.size ≤ q → va_A (xc_W A K n U TH AG Z B TK ++ xo_W ob kO f) s.heap.size q := fun q h => Or.inr h
  have hS : va_S (va_A (xc_W A K n U TH AG Z B TK ++ xo_W ob kO f) s.heap.size) s.heap s.heap [] := va_S.rf
  have hPc := xP_l hP
  have hDc := xD_l hD
  have hKc : va_K D xcl (xc_T K) s := hK.sub [0, 1, 2, 3, 4] rfl
  have hl := lv_entry ([.ref (A 0), .int (nI q), .ref ob]) (n := 4) (Nat.le_of_ble_eq_true rfl)
  rw [lg_entry_eq]
  generalize (lg_sl ([.ref (A 0), .int (nI q), .ref ob]) ++ List.replicate (4 - (lg_sl ([.ref (A 0), .int (nI q), .ref ob])).length) Slot.unset).toArray = ls at hl ⊢
  have hl : lv_has ls 4 [(0, .ref (A 0)), (1, .int (nI q)), (2, .ref ob)] := hl
  refine lv_aload_n hx hb dL_next_0 rfl (lv_at hl 2 rfl) ?_
  refine lv_iconst (v := 0) hx hb dL_next_1 (by decide) ?_
  refine lv_aload_n hx hb dL_next_2 rfl (lv_at hl 0 rfl) ?_
  refine lv_iload_n hx hb dL_next_3 rfl (lv_at hl 1 rfl) ?_
  refine xr_V (n := 1) (As := [.int (nI q)]) (rest := [.int 0, .ref ob]) ⟨hx, hb, hml, hown, ht⟩ (c_next_ok l D A K n U TH AG Z B TK q hq) (xg_V kml_RL_17 kim_yX0_next ksl_yX0_next kin_RX0 kco_yX0_next) ⟨rfl, rfl⟩ (by decide +kernel) ⟨Nat.le_of_ble_eq_true rfl, Nat.le_of_ble_eq_true rfl⟩ (xk_preV hPc hKc rfl rfl) rfl hl.1 rfl (Nat.le_of_ble_eq_true rfl) dL_next_4 ⟨Nat.le_of_ble_eq_true rfl, Nat.le_of_ble_eq_true rfl⟩ (fun r1 e1 => ?_)
  subst e1
  refine lv_i2l hx hb dL_next_7 rfl ?_
  refine va_last (i := 0) hx hb hK hP hD hS 6 5 rfl rfl (vp_in_nI (n := 0) (by decide) (by decide)) dL_next_8 (fun H locs hP hD hS => ?_)
  have hP : va_P D xcl (xc_W A K n U TH AG Z B TK ++ xo_W ob kO (vp_updL f 0 ((nI (B q)).toInt64))) H := hP
  refine lv_goto (tgt := 15) hx hb dL_next_9 (by decide) ?_
  refine lv_iconst (v := 0) hx hb dL_next_15 (by decide) ?_
  exact W.iret (v := 0) hx hb hr (fun t ht hW => ⟨⟨_, rfl, rfl⟩, by rw [ht]; exact hP, hS.F ht⟩) hS.2.2 dL_next_16

set_option maxHeartbeats 4000000 in
set_option maxRecDepth 100000 in
/-- next -/
theorem h_next_bad (l : Launch) (D : va_G) (A : Nat → Nat) (K : Nat → ClassId) (n : Nat) (U TH AG : Nat → Nat) (Z : Nat → Bool) (B : Nat → Nat) (TK : Nat) (x : Int32) (hbad : ¬ ∃ j : Nat, j < 6 ∧ x = nI j) (ob : Nat) (kO : ClassId) (f : Nat → Int64) (sz : Nat) (sz0 : Nat) (sa : Nat → Nat) (hl0 : l.stackTraces = false) : Met l yL_next (xwH yL_next cL_next 4 (some .int) [(0, 9, 12, 13)]) ({ frames := 7, cells := 1, slots := 6, locals := 111 }) (xk_MX [.ref (A 0), .int x, .ref ob] D (xc_T K ++ [(kO, .long)]) (xc_W A K n U TH AG Z B TK ++ xo_W ob kO f) sz sz0 sa) (xk_Q (fun v => v = some (.int 1)) D (xc_W A K n U TH AG Z B TK ++ xo_W ob kO f) (xc_W A K n U TH AG Z B TK ++ xo_W ob kO f)) 1 6 (va_A (xc_W A K n U TH AG Z B TK ++ xo_W ob kO f) sz) := by
  refine xt_ofWith (cc := cL_next) (maxL := 4) (ret := some .int) (hs := [(0, 9, 12, 13)]) (by decide) rfl ?_
  intro p e s m args below meth c s₁ B0 hml htab hv
  obtain ⟨rfl, hsz, hP, hK, hD0, hX⟩ := hv
  have hx := B0.exec
  have hb := B0.bytes
  have hr := B0.returns
  have ht : ∀ w ∈ xT, w.before _ s = true := fun w h => atoms_spec (ws := xwH yL_next cL_next 4 (some .int) [(0, 9, 12, 13)]) B0.pre w (List.mem_cons_of_mem _ h)
  have hown : s.vm.findClass RL = some m.cls := findClass_of_methodNamed B0.named
  have hlocks := B0.notSynchronized
  subst hsz
  have hD := hD0.self (sz := s.heap.size)
  have hA : ∀ q : Nat, s.heap.size ≤ q → va_A (xc_W A K n U TH AG Z B TK ++ xo_W ob kO f) s.heap.size q := fun q h => Or.inr h
  have hS : va_S (va_A (xc_W A K n U TH AG Z B TK ++ xo_W ob kO f) s.heap.size) s.heap s.heap [] := va_S.rf
  have hPc := xP_l hP
  have hDc := xD_l hD
  have hKc : va_K D xcl (xc_T K) s := hK.sub [0, 1, 2, 3, 4] rfl
  have hl := lv_entry ([.ref (A 0), .int x, .ref ob]) (n := 4) (Nat.le_of_ble_eq_true rfl)
  rw [lg_entry_eq]
  generalize (lg_sl ([.ref (A 0), .int x, .ref ob]) ++ List.replicate (4 - (lg_sl ([.ref (A 0), .int x, .ref ob])).length) Slot.unset).toArray = ls at hl ⊢
  have hl : lv_has ls 4 [(0, .ref (A 0)), (1, .int x), (2, .ref ob)] := hl
  refine lv_aload_n hx hb dL_next_0 rfl (lv_at hl 2 rfl) ?_
  refine lv_iconst (v := 0) hx hb dL_next_1 (by decide) ?_
  refine lv_aload_n hx hb dL_next_2 rfl (lv_at hl 0 rfl) ?_
  refine lv_iload_n hx hb dL_next_3 rfl (lv_at hl 1 rfl) ?_
  refine xh_i (E0 := xIA) (pre := []) (suf := []) (x := ⟨0, 9, 12, 13⟩) (vx_runV (As := [.int x]) (rest := [.int 0, .ref ob]) ⟨hx, hb, hml, hown, ht⟩ (c_next_bad l D A K n U TH AG Z B TK x hbad sz0 sa hl0) (cwV 1 ht (xg_V kml_RL_17 kim_yX0_next ksl_yX0_next kin_RX0 kco_yX0_next) rfl rfl rfl (by decide +kernel) ⟨Nat.le_of_ble_eq_true rfl, Nat.le_of_ble_eq_true rfl⟩) (xk_preX hPc hKc hX (fun _ _ _ => rfl) rfl rfl) rfl rfl hl.1 rfl (lv_room (Nat.le_of_ble_eq_true rfl)) dL_next_4 ⟨Nat.le_of_ble_eq_true rfl, Nat.le_of_ble_eq_true rfl⟩) hown htab (fun z hz => by cases hz) (by decide) (by decide) (ht _ kcl_RL_13) (va_Nw.use (xN_tab _ (by decide +kernel)) (hX.2.2.1 (.castable xIA xIA) (by decide +kernel))) (fun y9 H locs hS9 => ?_)
  have hP : va_P D xcl (xc_W A K n U TH AG Z B TK ++ xo_W ob kO f) H := hP.kept (fun k q hk => hS9.2.1 q.1 ((hP k q hk).lt) id)
  have hS : va_S (va_A (xc_W A K n U TH AG Z B TK ++ xo_W ob kO f) s.heap.size) s.heap H locs := ⟨hS9.1, fun q h1 _ => hS9.2.1 q h1 id, fun q hq => (hS9.2.2 q hq).elim⟩
  refine lv_astore_n (lv' := [(3, .ref y9), (0, .ref (A 0)), (1, .int x), (2, .ref ob)]) hx hb dL_next_12 rfl hl (by decide) rfl (fun ls hl => ?_)
  refine lv_iconst (v := 1) hx hb dL_next_13 (by decide) ?_
  exact W.iret (v := 1) hx hb hr (fun t ht hW => ⟨⟨_, rfl, rfl⟩, by rw [ht]; exact hP, hS.F ht⟩) hS.2.2 dL_next_14

set_option maxHeartbeats 4000000 in
set_option maxRecDepth 100000 in
/-- isUsed -/
theorem h_isUsed_ok (l : Launch) (D : va_G) (A : Nat → Nat) (K : Nat → ClassId) (n : Nat) (U TH AG : Nat → Nat) (Z : Nat → Bool) (B : Nat → Nat) (TK : Nat) (hn : n ≤ 128) (hU : ∀ j, U j < 65536) (hT : ∀ j, TH j < 65536) (j k : Nat) (hj : j < n) (hk : k < 16) (ob : Nat) (kO : ClassId) (f : Nat → Int64) (sz : Nat) : Met l yL_isUsed (xwH yL_isUsed cL_isUsed 4 (some .int) [(0, 16, 19, 13)]) ({ frames := 3, cells := 0, slots := 0, locals := 63 }) (xk_M [.ref (A 0), .int (nI (96 + 16 * j + k)), .ref ob] D (xc_T K ++ [(kO, .long)]) (xc_W A K n U TH AG Z B TK ++ xo_W ob kO f) sz) (xk_Q (fun v => v = some (.int 0)) D (xc_W A K n U TH AG Z B TK ++ xo_W ob kO f) (xc_W A K n U TH AG Z B TK ++ xo_W ob kO (vp_updL f 0 (if (U j).testBit k then 1 else 0)))) 0 0 (va_A (xc_W A K n U TH AG Z B TK ++ xo_W ob kO f) sz) := by
  refine xt_ofWith (cc := cL_isUsed) (maxL := 4) (ret := some .int) (hs := [(0, 16, 19, 13)]) (by decide) rfl ?_
  intro p e s m args below meth c s₁ B0 hml htab hv
  obtain ⟨rfl, hsz, hP, hK, hD0⟩ := hv
  have hx := B0.exec
  have hb := B0.bytes
  have hr := B0.returns
  have ht : ∀ w ∈ xT, w.before _ s = true := fun w h => atoms_spec (ws := xwH yL_isUsed cL_isUsed 4 (some .int) [(0, 16, 19, 13)]) B0.pre w (List.mem_cons_of_mem _ h)
  have hown : s.vm.findClass RL = some m.cls := findClass_of_methodNamed B0.named
  have hlocks := B0.notSynchronized
  subst hsz
  have hD := hD0.self (sz := s.heap.size)
  have hA : ∀ q : Nat, s.heap.size ≤ q → va_A (xc_W A K n U TH AG Z B TK ++ xo_W ob kO f) s.heap.size q := fun q h => Or.inr h
  have hS : va_S (va_A (xc_W A K n U TH AG Z B TK ++ xo_W ob kO f) s.heap.size) s.heap s.heap [] := va_S.rf
  have hPc := xP_l hP
  have hDc := xD_l hD
  have hKc : va_K D xcl (xc_T K) s := hK.sub [0, 1, 2, 3, 4] rfl
  have hl := lv_entry ([.ref (A 0), .int (nI (96 + 16 * j + k)), .ref ob]) (n := 4) (Nat.le_of_ble_eq_true rfl)
  rw [lg_entry_eq]
  generalize (lg_sl ([.ref (A 0), .int (nI (96 + 16 * j + k)), .ref ob]) ++ List.replicate (4 - (lg_sl ([.ref (A 0), .int (nI (96 + 16 * j + k)), .ref ob])).length) Slot.unset).toArray = ls at hl ⊢
  have hl : lv_has ls 4 [(0, .ref (A 0)), (1, .int (nI (96 + 16 * j + k))), (2, .ref ob)] := hl
  refine lv_aload_n hx hb dL_isUsed_0 rfl (lv_at hl 2 rfl) ?_
  refine lv_iconst (v := 0) hx hb dL_isUsed_1 (by decide) ?_
  refine lv_aload_n hx hb dL_isUsed_2 rfl (lv_at hl 0 rfl) ?_
  refine lv_iload_n hx hb dL_isUsed_3 rfl (lv_at hl 1 rfl) ?_
  refine xr_V (n := 1) (As := [.int (nI (96 + 16 * j + k))]) (rest := [.int 0, .ref ob]) ⟨hx, hb, hml, hown, ht⟩ (c_isUsed_ok l D A K n U TH AG Z B TK hn hU hT j k hj hk) (xg_V kml_RL_24 kim_yX0_isUsed ksl_yX0_isUsed kin_RX0 kco_yX0_isUsed) ⟨rfl, rfl⟩ (by decide +kernel) ⟨Nat.le_of_ble_eq_true rfl, Nat.le_of_ble_eq_true rfl⟩ (xk_preV hPc hKc rfl rfl) rfl hl.1 rfl (Nat.le_of_ble_eq_true rfl) dL_isUsed_4 ⟨Nat.le_of_ble_eq_true rfl, Nat.le_of_ble_eq_true rfl⟩ (fun r1 e1 => ?_)
  subst e1
  refine lv_if_eq (tgt := 14) hx hb dL_isUsed_7 (by decide) (fun h2 => ?_) (fun h2 => ?_)
  · rw [xb_0] at h2
    refine lv_lconst (v := 0) hx hb dL_isUsed_14 rfl ?_
    refine va_last (i := 0) hx hb hK hP hD hS 6 5 rfl rfl (vp_in_nI (n := 0) (by decide) (by decide)) dL_isUsed_15 (fun H locs hP hD hS => ?_)
    have hP : va_P D xcl (xc_W A K n U TH AG Z B TK ++ xo_W ob kO (vp_updL f 0 (if (U j).testBit k then 1 else 0))) H := by rw [h2]; exact hP
    refine lv_goto (tgt := 22) hx hb dL_isUsed_16 (by decide) ?_
    refine lv_iconst (v := 0) hx hb dL_isUsed_22 (by decide) ?_
    exact W.iret (v := 0) hx hb hr (fun t ht hW => ⟨⟨_, rfl, rfl⟩, by rw [ht]; exact hP, hS.F ht⟩) hS.2.2 dL_isUsed_23
  · rw [xb_n0] at h2
    refine lv_lconst (v := 1) hx hb dL_isUsed_10 rfl ?_
    refine lv_goto (tgt := 15) hx hb dL_isUsed_11 (by decide) ?_
    refine va_last (i := 0) hx hb hK hP hD hS 6 5 rfl rfl (vp_in_nI (n := 0) (by decide) (by decide)) dL_isUsed_15 (fun H locs hP hD hS => ?_)
    have hP : va_P D xcl (xc_W A K n U TH AG Z B TK ++ xo_W ob kO (vp_updL f 0 (if (U j).testBit k then 1 else 0))) H := by rw [h2]; exact hP
    refine lv_goto (tgt := 22) hx hb dL_isUsed_16 (by decide) ?_
    refine lv_iconst (v := 0) hx hb dL_isUsed_22 (by decide) ?_
    exact W.iret (v := 0) hx hb hr (fun t ht hW => ⟨⟨_, rfl, rfl⟩, by rw [ht]; exact hP, hS.F ht⟩) hS.2.2 dL_isUsed_23

set_option maxHeartbeats 4000000 in
set_option maxRecDepth 100000 in
/-- isUsed -/
theorem h_isUsed_bad (l : Launch) (D : va_G) (A : Nat → Nat) (K : Nat → ClassId) (n : Nat) (U TH AG : Nat → Nat) (Z : Nat → Bool) (B : Nat → Nat) (TK : Nat) (hn : n ≤ 128) (x : Int32) (hbad : ¬ ∃ j k : Nat, j < n ∧ k < 16 ∧ x = nI (96 + 16 * j + k)) (ob : Nat) (kO : ClassId) (f : Nat → Int64) (sz : Nat) (sz0 : Nat) (sa : Nat → Nat) (hl0 : l.stackTraces = false) : Met l yL_isUsed (xwH yL_isUsed cL_isUsed 4 (some .int) [(0, 16, 19, 13)]) ({ frames := 7, cells := 1, slots := 6, locals := 112 }) (xk_MX [.ref (A 0), .int x, .ref ob] D (xc_T K ++ [(kO, .long)]) (xc_W A K n U TH AG Z B TK ++ xo_W ob kO f) sz sz0 sa) (xk_Q (fun v => v = some (.int 1)) D (xc_W A K n U TH AG Z B TK ++ xo_W ob kO f) (xc_W A K n U TH AG Z B TK ++ xo_W ob kO f)) 1 6 (va_A (xc_W A K n U TH AG Z B TK ++ xo_W ob kO f) sz) := by
  refine xt_ofWith (cc := cL_isUsed) (maxL := 4) (ret := some .int) (hs := [(0, 16, 19, 13)]) (by decide) rfl ?_
  intro p e s m args below meth c s₁ B0 hml htab hv
  obtain ⟨rfl, hsz, hP, hK, hD0, hX⟩ := hv
  have hx := B0.exec
  have hb := B0.bytes
  have hr := B0.returns
  have ht : ∀ w ∈ xT, w.before _ s = true := fun w h => atoms_spec (ws := xwH yL_isUsed cL_isUsed 4 (some .int) [(0, 16, 19, 13)]) B0.pre w (List.mem_cons_of_mem _ h)
  have hown : s.vm.findClass RL = some m.cls := findClass_of_methodNamed B0.named
  have hlocks := B0.notSynchronized
  subst hsz
  have hD := hD0.self (sz := s.heap.size)
  have hA : ∀ q : Nat, s.heap.size ≤ q → va_A (xc_W A K n U TH AG Z B TK ++ xo_W ob kO f) s.heap.size q := fun q h => Or.inr h
  have hS : va_S (va_A (xc_W A K n U TH AG Z B TK ++ xo_W ob kO f) s.heap.size) s.heap s.heap [] := va_S.rf
  have hPc := xP_l hP
  have hDc := xD_l hD
  have hKc : va_K D xcl (xc_T K) s := hK.sub [0, 1, 2, 3, 4] rfl
  have hl := lv_entry ([.ref (A 0), .int x, .ref ob]) (n := 4) (Nat.le_of_ble_eq_true rfl)
  rw [lg_entry_eq]
  generalize (lg_sl ([.ref (A 0), .int x, .ref ob]) ++ List.replicate (4 - (lg_sl ([.ref (A 0), .int x, .ref ob])).length) Slot.unset).toArray = ls at hl ⊢
  have hl : lv_has ls 4 [(0, .ref (A 0)), (1, .int x), (2, .ref ob)] := hl
  refine lv_aload_n hx hb dL_isUsed_0 rfl (lv_at hl 2 rfl) ?_
  refine lv_iconst (v := 0) hx hb dL_isUsed_1 (by decide) ?_
  refine lv_aload_n hx hb dL_isUsed_2 rfl (lv_at hl 0 rfl) ?_
  refine lv_iload_n hx hb dL_isUsed_3 rfl (lv_at hl 1 rfl) ?_
  refine xh_i (E0 := xIA) (pre := []) (suf := []) (x := ⟨0, 16, 19, 13⟩) (vx_runV (As := [.int x]) (rest := [.int 0, .ref ob]) ⟨hx, hb, hml, hown, ht⟩ (c_isUsed_bad l D A K n U TH AG Z B TK hn x hbad sz0 sa hl0) (cwV 1 ht (xg_V kml_RL_24 kim_yX0_isUsed ksl_yX0_isUsed kin_RX0 kco_yX0_isUsed) rfl rfl rfl (by decide +kernel) ⟨Nat.le_of_ble_eq_true rfl, Nat.le_of_ble_eq_true rfl⟩) (xk_preX hPc hKc hX (fun _ _ _ => rfl) rfl rfl) rfl rfl hl.1 rfl (lv_room (Nat.le_of_ble_eq_true rfl)) dL_isUsed_4 ⟨Nat.le_of_ble_eq_true rfl, Nat.le_of_ble_eq_true rfl⟩) hown htab (fun z hz => by cases hz) (by decide) (by decide) (ht _ kcl_RL_13) (va_Nw.use (xN_tab _ (by decide +kernel)) (hX.2.2.1 (.castable xIA xIA) (by decide +kernel))) (fun y9 H locs hS9 => ?_)
  have hP : va_P D xcl (xc_W A K n U TH AG Z B TK ++ xo_W ob kO f) H := hP.kept (fun k q hk => hS9.2.1 q.1 ((hP k q hk).lt) id)
  have hS : va_S (va_A (xc_W A K n U TH AG Z B TK ++ xo_W ob kO f) s.heap.size) s.heap H locs := ⟨hS9.1, fun q h1 _ => hS9.2.1 q h1 id, fun q hq => (hS9.2.2 q hq).elim⟩
  refine lv_astore_n (lv' := [(3, .ref y9), (0, .ref (A 0)), (1, .int x), (2, .ref ob)]) hx hb dL_isUsed_19 rfl hl (by decide) rfl (fun ls hl => ?_)
  refine lv_iconst (v := 1) hx hb dL_isUsed_20 (by decide) ?_
  exact W.iret (v := 1) hx hb hr (fun t ht hW => ⟨⟨_, rfl, rfl⟩, by rw [ht]; exact hP, hS.F ht⟩) hS.2.2 dL_isUsed_21

set_option maxHeartbeats 4000000 in
set_option maxRecDepth 100000 in
/-- look -/
theorem h_look_ok (l : Launch) (D : va_G) (A : Nat → Nat) (K : Nat → ClassId) (n : Nat) (U TH AG : Nat → Nat) (Z : Nat → Bool) (B : Nat → Nat) (TK : Nat) (hn : n ≤ 128) (j v : Nat) (hj : j < n) (hv : v < 4) (ob : Nat) (kO : ClassId) (f : Nat → Int64) (sz : Nat) : Met l yL_look (xwH yL_look cL_look 5 (some .int) [(0, 10, 13, 13)]) ({ frames := 2, cells := 0, slots := 0, locals := 43 }) (xk_M [.ref (A 0), .int (nI j), .int (nI v), .ref ob] D (xc_T K ++ [(kO, .long)]) (xc_W A K n U TH AG Z B TK ++ xo_W ob kO f) sz) (xk_Q (fun v => v = some (.int 0)) D (xc_W A K n U TH AG Z B TK ++ xo_W ob kO f) (xc_W A K n U TH AG Z B TK ++ xo_W ob kO (vp_updL f 0 ((xlk U TH AG Z j v).toInt64)))) 0 0 (va_A (xc_W A K n U TH AG Z B TK ++ xo_W ob kO f) sz) := by
  refine xt_ofWith (cc := cL_look) (maxL := 5) (ret := some .int) (hs := [(0, 10, 13, 13)]) (by decide) rfl ?_
  intro p e s m args below meth c s₁ B0 hml htab hv
  obtain ⟨rfl, hsz, hP, hK, hD0⟩ := hv
  have hx := B0.exec
  have hb := B0.bytes
  have hr := B0.returns
  have ht : ∀ w ∈ xT, w.before _ s = true := fun w h => atoms_spec (ws := xwH yL_look cL_look 5 (some .int) [(0, 10, 13, 13)]) B0.pre w (List.mem_cons_of_mem _ h)
  have hown : s.vm.findClass RL = some m.cls := findClass_of_methodNamed B0.named
  have hlocks := B0.notSynchronized
  subst hsz
  have hD := hD0.self (sz := s.heap.size)
  have hA : ∀ q : Nat, s.heap.size ≤ q → va_A (xc_W A K n U TH AG Z B TK ++ xo_W ob kO f) s.heap.size q := fun q h => Or.inr h
  have hS : va_S (va_A (xc_W A K n U TH AG Z B TK ++ xo_W ob kO f) s.heap.size) s.heap s.heap [] := va_S.rf
  have hPc := xP_l hP
  have hDc := xD_l hD
  have hKc : va_K D xcl (xc_T K) s := hK.sub [0, 1, 2, 3, 4] rfl
  have hl := lv_entry ([.ref (A 0), .int (nI j), .int (nI v), .ref ob]) (n := 5) (Nat.le_of_ble_eq_true rfl)
  rw [lg_entry_eq]
  generalize (lg_sl ([.ref (A 0), .int (nI j), .int (nI v), .ref ob]) ++ List.replicate (5 - (lg_sl ([.ref (A 0), .int (nI j), .int (nI v), .ref ob])).length) Slot.unset).toArray = ls at hl ⊢
  have hl : lv_has ls 5 [(0, .ref (A 0)), (1, .int (nI j)), (2, .int (nI v)), (3, .ref ob)] := hl
  refine lv_aload_n hx hb dL_look_0 rfl (lv_at hl 3 rfl) ?_
  refine lv_iconst (v := 0) hx hb dL_look_1 (by decide) ?_
  refine lv_aload_n hx hb dL_look_2 rfl (lv_at hl 0 rfl) ?_
  refine lv_iload_n hx hb dL_look_3 rfl (lv_at hl 1 rfl) ?_
  refine lv_iload_n hx hb dL_look_4 rfl (lv_at hl 2 rfl) ?_
  refine xr_V (n := 2) (As := [.int (nI j), .int (nI v)]) (rest := [.int 0, .ref ob]) ⟨hx, hb, hml, hown, ht⟩ (c_look_ok l D A K n U TH AG Z B TK hn j v hj hv) (xg_V kml_RL_28 kim_yX0_look ksl_yX0_look kin_RX0 kco_yX0_look) ⟨rfl, rfl⟩ (by decide +kernel) ⟨Nat.le_of_ble_eq_true rfl, Nat.le_of_ble_eq_true rfl⟩ (xk_preV hPc hKc rfl rfl) rfl hl.1 rfl (Nat.le_of_ble_eq_true rfl) dL_look_5 ⟨Nat.le_of_ble_eq_true rfl, Nat.le_of_ble_eq_true rfl⟩ (fun r1 e1 => ?_)
  subst e1
  refine lv_i2l hx hb dL_look_8 rfl ?_
  refine va_last (i := 0) hx hb hK hP hD hS 6 5 rfl rfl (vp_in_nI (n := 0) (by decide) (by decide)) dL_look_9 (fun H locs hP hD hS => ?_)
  have hP : va_P D xcl (xc_W A K n U TH AG Z B TK ++ xo_W ob kO (vp_updL f 0 ((xlk U TH AG Z j v).toInt64))) H := hP
  refine lv_goto (tgt := 17) hx hb dL_look_10 (by decide) ?_
  refine lv_iconst (v := 0) hx hb dL_look_17 (by decide) ?_
  exact W.iret (v := 0) hx hb hr (fun t ht hW => ⟨⟨_, rfl, rfl⟩, by rw [ht]; exact hP, hS.F ht⟩) hS.2.2 dL_look_18

set_option maxHeartbeats 4000000 in
set_option maxRecDepth 100000 in
/-- look -/
theorem h_look_badS (l : Launch) (D : va_G) (A : Nat → Nat) (K : Nat → ClassId) (n : Nat) (U TH AG : Nat → Nat) (Z : Nat → Bool) (B : Nat → Nat) (TK : Nat) (hn : n ≤ 128) (x y : Int32) (hbad : ¬ ∃ j : Nat, j < n ∧ x = nI j) (ob : Nat) (kO : ClassId) (f : Nat → Int64) (sz : Nat) (sz0 : Nat) (sa : Nat → Nat) (hl0 : l.stackTraces = false) : Met l yL_look (xwH yL_look cL_look 5 (some .int) [(0, 10, 13, 13)]) ({ frames := 7, cells := 1, slots := 6, locals := 112 }) (xk_MX [.ref (A 0), .int x, .int y, .ref ob] D (xc_T K ++ [(kO, .long)]) (xc_W A K n U TH AG Z B TK ++ xo_W ob kO f) sz sz0 sa) (xk_Q (fun v => v = some (.int 1)) D (xc_W A K n U TH AG Z B TK ++ xo_W ob kO f) (xc_W A K n U TH AG Z B TK ++ xo_W ob kO f)) 1 6 (va_A (xc_W A K n U TH AG Z B TK ++ xo_W ob kO f) sz) := by
  refine xt_ofWith (cc := cL_look) (maxL := 5) (ret := some .int) (hs := [(0, 10, 13, 13)]) (by decide) rfl ?_
  intro p e s m args below meth c s₁ B0 hml htab hv
  obtain ⟨rfl, hsz, hP, hK, hD0, hX⟩ := hv
  have hx := B0.exec
  have hb := B0.bytes
  have hr := B0.returns
  have ht : ∀ w ∈ xT, w.before _ s = true := fun w h => atoms_spec (ws := xwH yL_look cL_look 5 (some .int) [(0, 10, 13, 13)]) B0.pre w (List.mem_cons_of_mem _ h)
  have hown : s.vm.findClass RL = some m.cls := findClass_of_methodNamed B0.named
  have hlocks := B0.notSynchronized
  subst hsz
  have hD := hD0.self (sz := s.heap.size)
  have hA : ∀ q : Nat, s.heap.size ≤ q → va_A (xc_W A K n U TH AG Z B TK ++ xo_W ob kO f) s.heap.size q := fun q h => Or.inr h
  have hS : va_S (va_A (xc_W A K n U TH AG Z B TK ++ xo_W ob kO f) s.heap.size) s.heap s.heap [] := va_S.rf
  have hPc := xP_l hP
  have hDc := xD_l hD
  have hKc : va_K D xcl (xc_T K) s := hK.sub [0, 1, 2, 3, 4] rfl
  have hl := lv_entry ([.ref (A 0), .int x, .int y, .ref ob]) (n := 5) (Nat.le_of_ble_eq_true rfl)
  rw [lg_entry_eq]
  generalize (lg_sl ([.ref (A 0), .int x, .int y, .ref ob]) ++ List.replicate (5 - (lg_sl ([.ref (A 0), .int x, .int y, .ref ob])).length) Slot.unset).toArray = ls at hl ⊢
  have hl : lv_has ls 5 [(0, .ref (A 0)), (1, .int x), (2, .int y), (3, .ref ob)] := hl
  refine lv_aload_n hx hb dL_look_0 rfl (lv_at hl 3 rfl) ?_
  refine lv_iconst (v := 0) hx hb dL_look_1 (by decide) ?_
  refine lv_aload_n hx hb dL_look_2 rfl (lv_at hl 0 rfl) ?_
  refine lv_iload_n hx hb dL_look_3 rfl (lv_at hl 1 rfl) ?_
  refine lv_iload_n hx hb dL_look_4 rfl (lv_at hl 2 rfl) ?_
  refine xh_i (E0 := xIA) (pre := []) (suf := []) (x := ⟨0, 10, 13, 13⟩) (vx_runV (As := [.int x, .int y]) (rest := [.int 0, .ref ob]) ⟨hx, hb, hml, hown, ht⟩ (c_look_badS l D A K n U TH AG Z B TK hn x y hbad sz0 sa hl0) (cwV 2 ht (xg_V kml_RL_28 kim_yX0_look ksl_yX0_look kin_RX0 kco_yX0_look) rfl rfl rfl (by decide +kernel) ⟨Nat.le_of_ble_eq_true rfl, Nat.le_of_ble_eq_true rfl⟩) (xk_preX hPc hKc hX (fun _ _ _ => rfl) rfl rfl) rfl rfl hl.1 rfl (lv_room (Nat.le_of_ble_eq_true rfl)) dL_look_5 ⟨Nat.le_of_ble_eq_true rfl, Nat.le_of_ble_eq_true rfl⟩) hown htab (fun z hz => by cases hz) (by decide) (by decide) (ht _ kcl_RL_13) (va_Nw.use (xN_tab _ (by decide +kernel)) (hX.2.2.1 (.castable xIA xIA) (by decide +kernel))) (fun y9 H locs hS9 => ?_)
  have hP : va_P D xcl (xc_W A K n U TH AG Z B TK ++ xo_W ob kO f) H := hP.kept (fun k q hk => hS9.2.1 q.1 ((hP k q hk).lt) id)
  have hS : va_S (va_A (xc_W A K n U TH AG Z B TK ++ xo_W ob kO f) s.heap.size) s.heap H locs := ⟨hS9.1, fun q h1 _ => hS9.2.1 q h1 id, fun q hq => (hS9.2.2 q hq).elim⟩
  refine lv_astore (lv' := [(4, .ref y9), (0, .ref (A 0)), (1, .int x), (2, .int y), (3, .ref ob)]) hx hb dL_look_13 hl (by decide) rfl (fun ls hl => ?_)
  refine lv_iconst (v := 1) hx hb dL_look_15 (by decide) ?_
  exact W.iret (v := 1) hx hb hr (fun t ht hW => ⟨⟨_, rfl, rfl⟩, by rw [ht]; exact hP, hS.F ht⟩) hS.2.2 dL_look_16

set_option maxHeartbeats 4000000 in
set_option maxRecDepth 100000 in
/-- look -/
theorem h_look_badW (l : Launch) (D : va_G) (A : Nat → Nat) (K : Nat → ClassId) (n : Nat) (U TH AG : Nat → Nat) (Z : Nat → Bool) (B : Nat → Nat) (TK : Nat) (hn : n ≤ 128) (j : Nat) (hj : j < n) (y : Int32) (hbad : ¬ ∃ v : Nat, v < 4 ∧ y = nI v) (ob : Nat) (kO : ClassId) (f : Nat → Int64) (sz : Nat) (sz0 : Nat) (sa : Nat → Nat) (hl0 : l.stackTraces = false) : Met l yL_look (xwH yL_look cL_look 5 (some .int) [(0, 10, 13, 13)]) ({ frames := 7, cells := 1, slots := 6, locals := 112 }) (xk_MX [.ref (A 0), .int (nI j), .int y, .ref ob] D (xc_T K ++ [(kO, .long)]) (xc_W A K n U TH AG Z B TK ++ xo_W ob kO f) sz sz0 sa) (xk_Q (fun v => v = some (.int 1)) D (xc_W A K n U TH AG Z B TK ++ xo_W ob kO f) (xc_W A K n U TH AG Z B TK ++ xo_W ob kO f)) 1 6 (va_A (xc_W A K n U TH AG Z B TK ++ xo_W ob kO f) sz) := by
  refine xt_ofWith (cc := cL_look) (maxL := 5) (ret := some .int) (hs := [(0, 10, 13, 13)]) (by decide) rfl ?_
  intro p e s m args below meth c s₁ B0 hml htab hv
  obtain ⟨rfl, hsz, hP, hK, hD0, hX⟩ := hv
  have hx := B0.exec
  have hb := B0.bytes
  have hr := B0.returns
  have ht : ∀ w ∈ xT, w.before _ s = true := fun w h => atoms_spec (ws := xwH yL_look cL_look 5 (some .int) [(0, 10, 13, 13)]) B0.pre w (List.mem_cons_of_mem _ h)
  have hown : s.vm.findClass RL = some m.cls := findClass_of_methodNamed B0.named
  have hlocks := B0.notSynchronized
  subst hsz
  have hD := hD0.self (sz := s.heap.size)
  have hA : ∀ q : Nat, s.heap.size ≤ q → va_A (xc_W A K n U TH AG Z B TK ++ xo_W ob kO f) s.heap.size q := fun q h => Or.inr h
  have hS : va_S (va_A (xc_W A K n U TH AG Z B TK ++ xo_W ob kO f) s.heap.size) s.heap s.heap [] := va_S.rf
  have hPc := xP_l hP
  have hDc := xD_l hD
  have hKc : va_K D xcl (xc_T K) s := hK.sub [0, 1, 2, 3, 4] rfl
  have hl := lv_entry ([.ref (A 0), .int (nI j), .int y, .ref ob]) (n := 5) (Nat.le_of_ble_eq_true rfl)
  rw [lg_entry_eq]
  generalize (lg_sl ([.ref (A 0), .int (nI j), .int y, .ref ob]) ++ List.replicate (5 - (lg_sl ([.ref (A 0), .int (nI j), .int y, .ref ob])).length) Slot.unset).toArray = ls at hl ⊢
  have hl : lv_has ls 5 [(0, .ref (A 0)), (1, .int (nI j)), (2, .int y), (3, .ref ob)] := hl
  refine lv_aload_n hx hb dL_look_0 rfl (lv_at hl 3 rfl) ?_
  refine lv_iconst (v := 0) hx hb dL_look_1 (by decide) ?_
  refine lv_aload_n hx hb dL_look_2 rfl (lv_at hl 0 rfl) ?_
  refine lv_iload_n hx hb dL_look_3 rfl (lv_at hl 1 rfl) ?_
  refine lv_iload_n hx hb dL_look_4 rfl (lv_at hl 2 rfl) ?_
  refine xh_i (E0 := xIA) (pre := []) (suf := []) (x := ⟨0, 10, 13, 13⟩) (vx_runV (As := [.int (nI j), .int y]) (rest := [.int 0, .ref ob]) ⟨hx, hb, hml, hown, ht⟩ (c_look_badW l D A K n U TH AG Z B TK hn j hj y hbad sz0 sa hl0) (cwV 2 ht (xg_V kml_RL_28 kim_yX0_look ksl_yX0_look kin_RX0 kco_yX0_look) rfl rfl rfl (by decide +kernel) ⟨Nat.le_of_ble_eq_true rfl, Nat.le_of_ble_eq_true rfl⟩) (xk_preX hPc hKc hX (fun _ _ _ => rfl) rfl rfl) rfl rfl hl.1 rfl (lv_room (Nat.le_of_ble_eq_true rfl)) dL_look_5 ⟨Nat.le_of_ble_eq_true rfl, Nat.le_of_ble_eq_true rfl⟩) hown htab (fun z hz => by cases hz) (by decide) (by decide) (ht _ kcl_RL_13) (va_Nw.use (xN_tab _ (by decide +kernel)) (hX.2.2.1 (.castable xIA xIA) (by decide +kernel))) (fun y9 H locs hS9 => ?_)
  have hP : va_P D xcl (xc_W A K n U TH AG Z B TK ++ xo_W ob kO f) H := hP.kept (fun k q hk => hS9.2.1 q.1 ((hP k q hk).lt) id)
  have hS : va_S (va_A (xc_W A K n U TH AG Z B TK ++ xo_W ob kO f) s.heap.size) s.heap H locs := ⟨hS9.1, fun q h1 _ => hS9.2.1 q h1 id, fun q hq => (hS9.2.2 q hq).elim⟩
  refine lv_astore (lv' := [(4, .ref y9), (0, .ref (A 0)), (1, .int (nI j)), (2, .int y), (3, .ref ob)]) hx hb dL_look_13 hl (by decide) rfl (fun ls hl => ?_)
  refine lv_iconst (v := 1) hx hb dL_look_15 (by decide) ?_
  exact W.iret (v := 1) hx hb hr (fun t ht hW => ⟨⟨_, rfl, rfl⟩, by rw [ht]; exact hP, hS.F ht⟩) hS.2.2 dL_look_16

set_option maxHeartbeats 4000000 in
set_option maxRecDepth 100000 in
/-- drop -/
theorem h_drop_ok (l : Launch) (D : va_G) (A : Nat → Nat) (K : Nat → ClassId) (n : Nat) (U TH AG : Nat → Nat) (Z : Nat → Bool) (B : Nat → Nat) (TK : Nat) (hn : n ≤ 128) (hU : ∀ j, U j < 65536) (hT : ∀ j, TH j < 65536) (j k : Nat) (hj : j < n) (hk : k < 16) (hs : (U j).testBit k = true) (ob : Nat) (kO : ClassId) (f : Nat → Int64) (sz : Nat) : Met l yL_drop (xwH yL_drop cL_drop 3 (some .int) [(0, 5, 8, 13), (0, 5, 11, 15)]) ({ frames := 3, cells := 0, slots := 0, locals := 63 }) (xk_M [.ref (A 0), .int (nI (96 + 16 * j + k))] D (xc_T K ++ [(kO, .long)]) (xc_W A K n U TH AG Z B TK ++ xo_W ob kO f) sz) (xk_Q (fun v => v = some (.int 0)) D (xc_W A K n U TH AG Z B TK ++ xo_W ob kO f) (xc_W A K n (va_up U j (U j &&& (65535 ^^^ 2 ^ k))) TH AG Z B TK ++ xo_W ob kO f)) 0 0 (va_A (xc_W A K n U TH AG Z B TK ++ xo_W ob kO f) sz) := by
  refine xt_ofWith (cc := cL_drop) (maxL := 3) (ret := some .int) (hs := [(0, 5, 8, 13), (0, 5, 11, 15)]) (by decide) rfl ?_
  intro p e s m args below meth c s₁ B0 hml htab hv
  obtain ⟨rfl, hsz, hP, hK, hD0⟩ := hv
  have hx := B0.exec
  have hb := B0.bytes
  have hr := B0.returns
  have ht : ∀ w ∈ xT, w.before _ s = true := fun w h => atoms_spec (ws := xwH yL_drop cL_drop 3 (some .int) [(0, 5, 8, 13), (0, 5, 11, 15)]) B0.pre w (List.mem_cons_of_mem _ h)
  have hown : s.vm.findClass RL = some m.cls := findClass_of_methodNamed B0.named
  have hlocks := B0.notSynchronized
  subst hsz
  have hD := hD0.self (sz := s.heap.size)
  have hA : ∀ q : Nat, s.heap.size ≤ q → va_A (xc_W A K n U TH AG Z B TK ++ xo_W ob kO f) s.heap.size q := fun q h => Or.inr h
  have hS : va_S (va_A (xc_W A K n U TH AG Z B TK ++ xo_W ob kO f) s.heap.size) s.heap s.heap [] := va_S.rf
  have hPc := xP_l hP
  have hDc := xD_l hD
  have hKc : va_K D xcl (xc_T K) s := hK.sub [0, 1, 2, 3, 4] rfl
  have hl := lv_entry ([.ref (A 0), .int (nI (96 + 16 * j + k))]) (n := 3) (Nat.le_of_ble_eq_true rfl)
  rw [lg_entry_eq]
  generalize (lg_sl ([.ref (A 0), .int (nI (96 + 16 * j + k))]) ++ List.replicate (3 - (lg_sl ([.ref (A 0), .int (nI (96 + 16 * j + k))])).length) Slot.unset).toArray = ls at hl ⊢
  have hl : lv_has ls 3 [(0, .ref (A 0)), (1, .int (nI (96 + 16 * j + k)))] := hl
  refine lv_aload_n hx hb dL_drop_0 rfl (lv_at hl 0 rfl) ?_
  refine lv_iload_n hx hb dL_drop_1 rfl (lv_at hl 1 rfl) ?_
  refine xr_go (ws := xc_W A K n U TH AG Z B TK) (ws' := xc_W A K n (va_up U j (U j &&& (65535 ^^^ 2 ^ k))) TH AG Z B TK) (va_runV (As := [.int (nI (96 + 16 * j + k))]) (rest := []) ⟨hx, hb, hml, hown, ht⟩ (c_drop_ok l D A K n U TH AG Z B TK hn hU hT j k hj hk hs s.heap.size) (cwV 1 ht (xg_V kml_RL_20 kim_yX0_drop ksl_yX0_drop kin_RX0 kco_yX0_drop) rfl rfl rfl (by decide +kernel) ⟨Nat.le_of_ble_eq_true rfl, Nat.le_of_ble_eq_true rfl⟩) (xk_preMV hPc hKc hDc rfl rfl) rfl rfl hl.1 rfl (lv_room (Nat.le_of_ble_eq_true rfl)) dL_drop_2 ⟨Nat.le_of_ble_eq_true rfl, Nat.le_of_ble_eq_true rfl⟩) hS (xD_A hDc hS hA) (fun v9 H locs e9 hP1 hz9 hk9 hS => ?_)
  subst e9
  have hP : va_P D xcl (xc_W A K n (va_up U j (U j &&& (65535 ^^^ 2 ^ k))) TH AG Z B TK ++ xo_W ob kO f) H := hP1.app (xP_keepR hD (xP_r hP) hk9)
  have hD : va_D (va_A (xc_W A K n U TH AG Z B TK ++ xo_W ob kO f) s.heap.size) (xc_W A K n (va_up U j (U j &&& (65535 ^^^ 2 ^ k))) TH AG Z B TK ++ xo_W ob kO f) := xD_same (ws := xc_W A K n U TH AG Z B TK ++ xo_W ob kO f) rfl hD
  refine lv_goto (tgt := 14) hx hb dL_drop_5 (by decide) ?_
  refine lv_iconst (v := 0) hx hb dL_drop_14 (by decide) ?_
  exact W.iret (v := 0) hx hb hr (fun t ht hW => ⟨⟨_, rfl, rfl⟩, by rw [ht]; exact hP, hS.F ht⟩) hS.2.2 dL_drop_15

set_option maxHeartbeats 4000000 in
set_option maxRecDepth 100000 in
/-- drop -/
theorem h_drop_bad (l : Launch) (D : va_G) (A : Nat → Nat) (K : Nat → ClassId) (n : Nat) (U TH AG : Nat → Nat) (Z : Nat → Bool) (B : Nat → Nat) (TK : Nat) (hn : n ≤ 128) (x : Int32) (hbad : ¬ ∃ j k : Nat, j < n ∧ k < 16 ∧ x = nI (96 + 16 * j + k)) (ob : Nat) (kO : ClassId) (f : Nat → Int64) (sz : Nat) (sz0 : Nat) (sa : Nat → Nat) (hl0 : l.stackTraces = false) : Met l yL_drop (xwH yL_drop cL_drop 3 (some .int) [(0, 5, 8, 13), (0, 5, 11, 15)]) ({ frames := 7, cells := 1, slots := 6, locals := 112 }) (xk_MX [.ref (A 0), .int x] D (xc_T K ++ [(kO, .long)]) (xc_W A K n U TH AG Z B TK ++ xo_W ob kO f) sz sz0 sa) (xk_Q (fun v => v = some (.int 1)) D (xc_W A K n U TH AG Z B TK ++ xo_W ob kO f) (xc_W A K n U TH AG Z B TK ++ xo_W ob kO f)) 1 6 (va_A (xc_W A K n U TH AG Z B TK ++ xo_W ob kO f) sz) := by
  refine xt_ofWith (cc := cL_drop) (maxL := 3) (ret := some .int) (hs := [(0, 5, 8, 13), (0, 5, 11, 15)]) (by decide) rfl ?_
  intro p e s m args below meth c s₁ B0 hml htab hv
  obtain ⟨rfl, hsz, hP, hK, hD0, hX⟩ := hv
  have hx := B0.exec
  have hb := B0.bytes
  have hr := B0.returns
  have ht : ∀ w ∈ xT, w.before _ s = true := fun w h => atoms_spec (ws := xwH yL_drop cL_drop 3 (some .int) [(0, 5, 8, 13), (0, 5, 11, 15)]) B0.pre w (List.mem_cons_of_mem _ h)
  have hown : s.vm.findClass RL = some m.cls := findClass_of_methodNamed B0.named
  have hlocks := B0.notSynchronized
  subst hsz
  have hD := hD0.self (sz := s.heap.size)
  have hA : ∀ q : Nat, s.heap.size ≤ q → va_A (xc_W A K n U TH AG Z B TK ++ xo_W ob kO f) s.heap.size q := fun q h => Or.inr h
  have hS : va_S (va_A (xc_W A K n U TH AG Z B TK ++ xo_W ob kO f) s.heap.size) s.heap s.heap [] := va_S.rf
  have hPc := xP_l hP
  have hDc := xD_l hD
  have hKc : va_K D xcl (xc_T K) s := hK.sub [0, 1, 2, 3, 4] rfl
  have hl := lv_entry ([.ref (A 0), .int x]) (n := 3) (Nat.le_of_ble_eq_true rfl)
  rw [lg_entry_eq]
  generalize (lg_sl ([.ref (A 0), .int x]) ++ List.replicate (3 - (lg_sl ([.ref (A 0), .int x])).length) Slot.unset).toArray = ls at hl ⊢
  have hl : lv_has ls 3 [(0, .ref (A 0)), (1, .int x)] := hl
  refine lv_aload_n hx hb dL_drop_0 rfl (lv_at hl 0 rfl) ?_
  refine lv_iload_n hx hb dL_drop_1 rfl (lv_at hl 1 rfl) ?_
  refine xh_v (E0 := xIA) (pre := []) (suf := [⟨0, 5, 11, 15⟩]) (x := ⟨0, 5, 8, 13⟩) (vx_runV (As := [.int x]) (rest := []) ⟨hx, hb, hml, hown, ht⟩ (c_drop_bad l D A K n U TH AG Z B TK hn x hbad sz0 sa hl0) (cwV 1 ht (xg_V kml_RL_20 kim_yX0_drop ksl_yX0_drop kin_RX0 kco_yX0_drop) rfl rfl rfl (by decide +kernel) ⟨Nat.le_of_ble_eq_true rfl, Nat.le_of_ble_eq_true rfl⟩) (xk_preX hPc hKc hX (fun _ _ _ => rfl) rfl rfl) rfl rfl hl.1 rfl (lv_room (Nat.le_of_ble_eq_true rfl)) dL_drop_2 ⟨Nat.le_of_ble_eq_true rfl, Nat.le_of_ble_eq_true rfl⟩) hown htab (fun z hz => by cases hz) (by decide) (by decide) (ht _ kcl_RL_13) (va_Nw.use (xN_tab _ (by decide +kernel)) (hX.2.2.1 (.castable xIA xIA) (by decide +kernel))) (fun y9 H locs hS9 => ?_)
  have hP : va_P D xcl (xc_W A K n U TH AG Z B TK ++ xo_W ob kO f) H := hP.kept (fun k q hk => hS9.2.1 q.1 ((hP k q hk).lt) id)
  have hS : va_S (va_A (xc_W A K n U TH AG Z B TK ++ xo_W ob kO f) s.heap.size) s.heap H locs := ⟨hS9.1, fun q h1 _ => hS9.2.1 q h1 id, fun q hq => (hS9.2.2 q hq).elim⟩
  refine lv_astore_n (lv' := [(2, .ref y9), (0, .ref (A 0)), (1, .int x)]) hx hb dL_drop_8 rfl hl (by decide) rfl (fun ls hl => ?_)
  refine lv_iconst (v := 1) hx hb dL_drop_9 (by decide) ?_
  exact W.iret (v := 1) hx hb hr (fun t ht hW => ⟨⟨_, rfl, rfl⟩, by rw [ht]; exact hP, hS.F ht⟩) hS.2.2 dL_drop_10

set_option maxHeartbeats 4000000 in
set_option maxRecDepth 100000 in
/-- drop -/
theorem h_drop_no (l : Launch) (D : va_G) (A : Nat → Nat) (K : Nat → ClassId) (n : Nat) (U TH AG : Nat → Nat) (Z : Nat → Bool) (B : Nat → Nat) (TK : Nat) (hn : n ≤ 128) (hU : ∀ j, U j < 65536) (hT : ∀ j, TH j < 65536) (j k : Nat) (hj : j < n) (hk : k < 16) (hs : (U j).testBit k = false) (ob : Nat) (kO : ClassId) (f : Nat → Int64) (sz : Nat) (sz0 : Nat) (sa : Nat → Nat) (hl0 : l.stackTraces = false) : Met l yL_drop (xwH yL_drop cL_drop 3 (some .int) [(0, 5, 8, 13), (0, 5, 11, 15)]) ({ frames := 7, cells := 1, slots := 6, locals := 112 }) (xk_MX [.ref (A 0), .int (nI (96 + 16 * j + k))] D (xc_T K ++ [(kO, .long)]) (xc_W A K n U TH AG Z B TK ++ xo_W ob kO f) sz sz0 sa) (xk_Q (fun v => v = some (.int 2)) D (xc_W A K n U TH AG Z B TK ++ xo_W ob kO f) (xc_W A K n U TH AG Z B TK ++ xo_W ob kO f)) 1 6 (va_A (xc_W A K n U TH AG Z B TK ++ xo_W ob kO f) sz) := by
  refine xt_ofWith (cc := cL_drop) (maxL := 3) (ret := some .int) (hs := [(0, 5, 8, 13), (0, 5, 11, 15)]) (by decide) rfl ?_
  intro p e s m args below meth c s₁ B0 hml htab hv
  obtain ⟨rfl, hsz, hP, hK, hD0, hX⟩ := hv
  have hx := B0.exec
  have hb := B0.bytes
  have hr := B0.returns
  have ht : ∀ w ∈ xT, w.before _ s = true := fun w h => atoms_spec (ws := xwH yL_drop cL_drop 3 (some .int) [(0, 5, 8, 13), (0, 5, 11, 15)]) B0.pre w (List.mem_cons_of_mem _ h)
  have hown : s.vm.findClass RL = some m.cls := findClass_of_methodNamed B0.named
  have hlocks := B0.notSynchronized
  subst hsz
  have hD := hD0.self (sz := s.heap.size)
  have hA : ∀ q : Nat, s.heap.size ≤ q → va_A (xc_W A K n U TH AG Z B TK ++ xo_W ob kO f) s.heap.size q := fun q h => Or.inr h
  have hS : va_S (va_A (xc_W A K n U TH AG Z B TK ++ xo_W ob kO f) s.heap.size) s.heap s.heap [] := va_S.rf
  have hPc := xP_l hP
  have hDc := xD_l hD
  have hKc : va_K D xcl (xc_T K) s := hK.sub [0, 1, 2, 3, 4] rfl
  have hl := lv_entry ([.ref (A 0), .int (nI (96 + 16 * j + k))]) (n := 3) (Nat.le_of_ble_eq_true rfl)
  rw [lg_entry_eq]
  generalize (lg_sl ([.ref (A 0), .int (nI (96 + 16 * j + k))]) ++ List.replicate (3 - (lg_sl ([.ref (A 0), .int (nI (96 + 16 * j + k))])).length) Slot.unset).toArray = ls at hl ⊢
  have hl : lv_has ls 3 [(0, .ref (A 0)), (1, .int (nI (96 + 16 * j + k)))] := hl
  refine lv_aload_n hx hb dL_drop_0 rfl (lv_at hl 0 rfl) ?_
  refine lv_iload_n hx hb dL_drop_1 rfl (lv_at hl 1 rfl) ?_
  refine xh_v (E0 := xIS) (pre := [⟨0, 5, 8, 13⟩]) (suf := []) (x := ⟨0, 5, 11, 15⟩) (vx_runV (As := [.int (nI (96 + 16 * j + k))]) (rest := []) ⟨hx, hb, hml, hown, ht⟩ (c_drop_no l D A K n U TH AG Z B TK hn hU hT j k hj hk hs sz0 sa hl0) (cwV 1 ht (xg_V kml_RL_20 kim_yX0_drop ksl_yX0_drop kin_RX0 kco_yX0_drop) rfl rfl rfl (by decide +kernel) ⟨Nat.le_of_ble_eq_true rfl, Nat.le_of_ble_eq_true rfl⟩) (xk_preX hPc hKc hX (fun _ _ _ => rfl) rfl rfl) rfl rfl hl.1 rfl (lv_room (Nat.le_of_ble_eq_true rfl)) dL_drop_2 ⟨Nat.le_of_ble_eq_true rfl, Nat.le_of_ble_eq_true rfl⟩) hown htab (fun z hz => by cases List.mem_singleton.mp hz; exact Or.inr ⟨by decide, _, ht _ kcl_RL_13, hX.2.2.2.2.2.2.2.2.2⟩) (by decide) (by decide) (ht _ kcl_RL_15) (va_Nw.use (xN_tab _ (by decide +kernel)) (hX.2.2.1 (.castable xIS xIS) (by decide +kernel))) (fun y9 H locs hS9 => ?_)
  have hP : va_P D xcl (xc_W A K n U TH AG Z B TK ++ xo_W ob kO f) H := hP.kept (fun k q hk => hS9.2.1 q.1 ((hP k q hk).lt) id)
  have hS : va_S (va_A (xc_W A K n U TH AG Z B TK ++ xo_W ob kO f) s.heap.size) s.heap H locs := ⟨hS9.1, fun q h1 _ => hS9.2.1 q h1 id, fun q hq => (hS9.2.2 q hq).elim⟩
  refine lv_astore_n (lv' := [(2, .ref y9), (0, .ref (A 0)), (1, .int (nI (96 + 16 * j + k)))]) hx hb dL_drop_11 rfl hl (by decide) rfl (fun ls hl => ?_)
  refine lv_iconst (v := 2) hx hb dL_drop_12 (by decide) ?_
  exact W.iret (v := 2) hx hb hr (fun t ht hW => ⟨⟨_, rfl, rfl⟩, by rw [ht]; exact hP, hS.F ht⟩) hS.2.2 dL_drop_13

set_option maxHeartbeats 4000000 in
set_option maxRecDepth 100000 in
/-- take -/
theorem h_take_stay (l : Launch) (D : va_G) (A : Nat → Nat) (K : Nat → ClassId) (n : Nat) (U TH AG : Nat → Nat) (Z : Nat → Bool) (B : Nat → Nat) (TK : Nat) (hn : n ≤ 128) (hU : ∀ j, U j < 65536) (hT : ∀ j, TH j < 65536) (q j k : Nat) (hq : q < 6) (hB : B q = 96 + 16 * j + k) (hj : j < n) (hk : k < 15) (ob : Nat) (kO : ClassId) (f : Nat → Int64) (sz : Nat) : Met l yL_take (xwH yL_take cL_take 4 (some .int) [(0, 9, 12, 13), (0, 9, 15, 15)]) ({ frames := 5, cells := 0, slots := 0, locals := 108 }) (xk_M [.ref (A 0), .int (nI q), .ref ob] D (xc_T K ++ [(kO, .long)]) (xc_W A K n U TH AG Z B TK ++ xo_W ob kO f) sz) (xk_Q (fun v => v = some (.int 0)) D (xc_W A K n U TH AG Z B TK ++ xo_W ob kO f) (xc_W A K n (va_up U j (U j ||| 2 ^ k)) TH (va_up AG j (TK + 1)) (va_up Z j true) (va_up B q (96 + 16 * j + (k + 1))) (TK + 1) ++ xo_W ob kO (vp_updL f 0 (nI (96 + 16 * j + k)).toInt64))) 0 0 (va_A (xc_W A K n U TH AG Z B TK ++ xo_W ob kO f) sz) := by
  refine xt_ofWith (cc := cL_take) (maxL := 4) (ret := some .int) (hs := [(0, 9, 12, 13), (0, 9, 15, 15)]) (by decide) rfl ?_
  intro p e s m args below meth c s₁ B0 hml htab hv
  obtain ⟨rfl, hsz, hP, hK, hD0⟩ := hv
  have hx := B0.exec
  have hb := B0.bytes
  have hr := B0.returns
  have ht : ∀ w ∈ xT, w.before _ s = true := fun w h => atoms_spec (ws := xwH yL_take cL_take 4 (some .int) [(0, 9, 12, 13), (0, 9, 15, 15)]) B0.pre w (List.mem_cons_of_mem _ h)
  have hown : s.vm.findClass RL = some m.cls := findClass_of_methodNamed B0.named
  have hlocks := B0.notSynchronized
  subst hsz
  have hD := hD0.self (sz := s.heap.size)
  have hA : ∀ q : Nat, s.heap.size ≤ q → va_A (xc_W A K n U TH AG Z B TK ++ xo_W ob kO f) s.heap.size q := fun q h => Or.inr h
  have hS : va_S (va_A (xc_W A K n U TH AG Z B TK ++ xo_W ob kO f) s.heap.size) s.heap s.heap [] := va_S.rf
  have hPc := xP_l hP
  have hDc := xD_l hD
  have hKc : va_K D xcl (xc_T K) s := hK.sub [0, 1, 2, 3, 4] rfl
  have hl := lv_entry ([.ref (A 0), .int (nI q), .ref ob]) (n := 4) (Nat.le_of_ble_eq_true rfl)
  rw [lg_entry_eq]
  generalize (lg_sl ([.ref (A 0), .int (nI q), .ref ob]) ++ List.replicate (4 - (lg_sl ([.ref (A 0), .int (nI q), .ref ob])).length) Slot.unset).toArray = ls at hl ⊢
  have hl : lv_has ls 4 [(0, .ref (A 0)), (1, .int (nI q)), (2, .ref ob)] := hl
  refine lv_aload_n hx hb dL_take_0 rfl (lv_at hl 2 rfl) ?_
  refine lv_iconst (v := 0) hx hb dL_take_1 (by decide) ?_
  refine lv_aload_n hx hb dL_take_2 rfl (lv_at hl 0 rfl) ?_
  refine lv_iload_n hx hb dL_take_3 rfl (lv_at hl 1 rfl) ?_
  refine xr_go (ws := xc_W A K n U TH AG Z B TK) (ws' := xc_W A K n (va_up U j (U j ||| 2 ^ k)) TH (va_up AG j (TK + 1)) (va_up Z j true) (va_up B q (96 + 16 * j + (k + 1))) (TK + 1)) (va_runV (As := [.int (nI q)]) (rest := [.int 0, .ref ob]) ⟨hx, hb, hml, hown, ht⟩ (c_take_stay l D A K n U TH AG Z B TK hn hU hT q j k hq hB hj hk s.heap.size) (cwV 1 ht (xg_V kml_RL_7 kim_yX0_take ksl_yX0_take kin_RX0 kco_yX0_take) rfl rfl rfl (by decide +kernel) ⟨Nat.le_of_ble_eq_true rfl, Nat.le_of_ble_eq_true rfl⟩) (xk_preMV hPc hKc hDc rfl rfl) rfl rfl hl.1 rfl (lv_room (Nat.le_of_ble_eq_true rfl)) dL_take_4 ⟨Nat.le_of_ble_eq_true rfl, Nat.le_of_ble_eq_true rfl⟩) hS (xD_A hDc hS hA) (fun v9 H locs e9 hP1 hz9 hk9 hS => ?_)
  subst e9
  have hP : va_P D xcl (xc_W A K n (va_up U j (U j ||| 2 ^ k)) TH (va_up AG j (TK + 1)) (va_up Z j true) (va_up B q (96 + 16 * j + (k + 1))) (TK + 1) ++ xo_W ob kO f) H := hP1.app (xP_keepR hD (xP_r hP) hk9)
  have hD : va_D (va_A (xc_W A K n U TH AG Z B TK ++ xo_W ob kO f) s.heap.size) (xc_W A K n (va_up U j (U j ||| 2 ^ k)) TH (va_up AG j (TK + 1)) (va_up Z j true) (va_up B q (96 + 16 * j + (k + 1))) (TK + 1) ++ xo_W ob kO f) := xD_same (ws := xc_W A K n U TH AG Z B TK ++ xo_W ob kO f) rfl hD
  refine lv_i2l hx hb dL_take_7 rfl ?_
  refine va_last (i := 0) hx hb hK hP hD hS 6 5 rfl rfl (vp_in_nI (n := 0) (by decide) (by decide)) dL_take_8 (fun H locs hP hD hS => ?_)
  have hP : va_P D xcl (xc_W A K n (va_up U j (U j ||| 2 ^ k)) TH (va_up AG j (TK + 1)) (va_up Z j true) (va_up B q (96 + 16 * j + (k + 1))) (TK + 1) ++ xo_W ob kO (vp_updL f 0 ((nI (96 + 16 * j + k)).toInt64))) H := hP
  refine lv_goto (tgt := 18) hx hb dL_take_9 (by decide) ?_
  refine lv_iconst (v := 0) hx hb dL_take_18 (by decide) ?_
  exact W.iret (v := 0) hx hb hr (fun t ht hW => ⟨⟨_, rfl, rfl⟩, by rw [ht]; exact hP, hS.F ht⟩) hS.2.2 dL_take_19

set_option maxHeartbeats 4000000 in
set_option maxRecDepth 100000 in
/-- take -/
theorem h_take_open (l : Launch) (D : va_G) (A : Nat → Nat) (K : Nat → ClassId) (n : Nat) (U TH AG : Nat → Nat) (Z : Nat → Bool) (B : Nat → Nat) (TK : Nat) (hn : n ≤ 128) (hU : ∀ j, U j < 65536) (hT : ∀ j, TH j < 65536) (q j k : Nat) (hq : q < 6) (hB : B q = 96 + 16 * j + k) (hj : j < n) (hk : k = 15) (o : Nat) (ho : o < n) (ho1 : xfr U TH Z o = true) (ho2 : ∀ i, i < o → xfr U TH Z i = false) (ob : Nat) (kO : ClassId) (f : Nat → Int64) (sz : Nat) : Met l yL_take (xwH yL_take cL_take 4 (some .int) [(0, 9, 12, 13), (0, 9, 15, 15)]) ({ frames := 5, cells := 0, slots := 0, locals := 108 }) (xk_M [.ref (A 0), .int (nI q), .ref ob] D (xc_T K ++ [(kO, .long)]) (xc_W A K n U TH AG Z B TK ++ xo_W ob kO f) sz) (xk_Q (fun v => v = some (.int 0)) D (xc_W A K n U TH AG Z B TK ++ xo_W ob kO f) (xc_W A K n (va_up U j (U j ||| 2 ^ k)) TH (va_up AG j (TK + 1)) (va_up Z o true) (va_up B q (96 + 16 * o + 0)) (TK + 1) ++ xo_W ob kO (vp_updL f 0 (nI (96 + 16 * j + k)).toInt64))) 0 0 (va_A (xc_W A K n U TH AG Z B TK ++ xo_W ob kO f) sz) := by
  refine xt_ofWith (cc := cL_take) (maxL := 4) (ret := some .int) (hs := [(0, 9, 12, 13), (0, 9, 15, 15)]) (by decide) rfl ?_
  intro p e s m args below meth c s₁ B0 hml htab hv
  obtain ⟨rfl, hsz, hP, hK, hD0⟩ := hv
  have hx := B0.exec
  have hb := B0.bytes
  have hr := B0.returns
  have ht : ∀ w ∈ xT, w.before _ s = true := fun w h => atoms_spec (ws := xwH yL_take cL_take 4 (some .int) [(0, 9, 12, 13), (0, 9, 15, 15)]) B0.pre w (List.mem_cons_of_mem _ h)
  have hown : s.vm.findClass RL = some m.cls := findClass_of_methodNamed B0.named
  have hlocks := B0.notSynchronized
  subst hsz
  have hD := hD0.self (sz := s.heap.size)
  have hA : ∀ q : Nat, s.heap.size ≤ q → va_A (xc_W A K n U TH AG Z B TK ++ xo_W ob kO f) s.heap.size q := fun q h => Or.inr h
  have hS : va_S (va_A (xc_W A K n U TH AG Z B TK ++ xo_W ob kO f) s.heap.size) s.heap s.heap [] := va_S.rf
  have hPc := xP_l hP
  have hDc := xD_l hD
  have hKc : va_K D xcl (xc_T K) s := hK.sub [0, 1, 2, 3, 4] rfl
  have hl := lv_entry ([.ref (A 0), .int (nI q), .ref ob]) (n := 4) (Nat.le_of_ble_eq_true rfl)
  rw [lg_entry_eq]
  generalize (lg_sl ([.ref (A 0), .int (nI q), .ref ob]) ++ List.replicate (4 - (lg_sl ([.ref (A 0), .int (nI q), .ref ob])).length) Slot.unset).toArray = ls at hl ⊢
  have hl : lv_has ls 4 [(0, .ref (A 0)), (1, .int (nI q)), (2, .ref ob)] := hl
  refine lv_aload_n hx hb dL_take_0 rfl (lv_at hl 2 rfl) ?_
  refine lv_iconst (v := 0) hx hb dL_take_1 (by decide) ?_
  refine lv_aload_n hx hb dL_take_2 rfl (lv_at hl 0 rfl) ?_
  refine lv_iload_n hx hb dL_take_3 rfl (lv_at hl 1 rfl) ?_
  refine xr_go (ws := xc_W A K n U TH AG Z B TK) (ws' := xc_W A K n (va_up U j (U j ||| 2 ^ k)) TH (va_up AG j (TK + 1)) (va_up Z o true) (va_up B q (96 + 16 * o + 0)) (TK + 1)) (va_runV (As := [.int (nI q)]) (rest := [.int 0, .ref ob]) ⟨hx, hb, hml, hown, ht⟩ (c_take_open l D A K n U TH AG Z B TK hn hU hT q j k hq hB hj hk o ho ho1 ho2 s.heap.size) (cwV 1 ht (xg_V kml_RL_7 kim_yX0_take ksl_yX0_take kin_RX0 kco_yX0_take) rfl rfl rfl (by decide +kernel) ⟨Nat.le_of_ble_eq_true rfl, Nat.le_of_ble_eq_true rfl⟩) (xk_preMV hPc hKc hDc rfl rfl) rfl rfl hl.1 rfl (lv_room (Nat.le_of_ble_eq_true rfl)) dL_take_4 ⟨Nat.le_of_ble_eq_true rfl, Nat.le_of_ble_eq_true rfl⟩) hS (xD_A hDc hS hA) (fun v9 H locs e9 hP1 hz9 hk9 hS => ?_)
  subst e9
  have hP : va_P D xcl (xc_W A K n (va_up U j (U j ||| 2 ^ k)) TH (va_up AG j (TK + 1)) (va_up Z o true) (va_up B q (96 + 16 * o + 0)) (TK + 1) ++ xo_W ob kO f) H := hP1.app (xP_keepR hD (xP_r hP) hk9)
  have hD : va_D (va_A (xc_W A K n U TH AG Z B TK ++ xo_W ob kO f) s.heap.size) (xc_W A K n (va_up U j (U j ||| 2 ^ k)) TH (va_up AG j (TK + 1)) (va_up Z o true) (va_up B q (96 + 16 * o + 0)) (TK + 1) ++ xo_W ob kO f) := xD_same (ws := xc_W A K n U TH AG Z B TK ++ xo_W ob kO f) rfl hD
  refine lv_i2l hx hb dL_take_7 rfl ?_
  refine va_last (i := 0) hx hb hK hP hD hS 6 5 rfl rfl (vp_in_nI (n := 0) (by decide) (by decide)) dL_take_8 (fun H locs hP hD hS => ?_)
  have hP : va_P D xcl (xc_W A K n (va_up U j (U j ||| 2 ^ k)) TH (va_up AG j (TK + 1)) (va_up Z o true) (va_up B q (96 + 16 * o + 0)) (TK + 1) ++ xo_W ob kO (vp_updL f 0 ((nI (96 + 16 * j + k)).toInt64))) H := hP
  refine lv_goto (tgt := 18) hx hb dL_take_9 (by decide) ?_
  refine lv_iconst (v := 0) hx hb dL_take_18 (by decide) ?_
  exact W.iret (v := 0) hx hb hr (fun t ht hW => ⟨⟨_, rfl, rfl⟩, by rw [ht]; exact hP, hS.F ht⟩) hS.2.2 dL_take_19

set_option maxHeartbeats 4000000 in
set_option maxRecDepth 100000 in
/-- take -/
theorem h_take_full (l : Launch) (D : va_G) (A : Nat → Nat) (K : Nat → ClassId) (n : Nat) (U TH AG : Nat → Nat) (Z : Nat → Bool) (B : Nat → Nat) (TK : Nat) (hn : n ≤ 128) (hU : ∀ j, U j < 65536) (hT : ∀ j, TH j < 65536) (q j k : Nat) (hq : q < 6) (hB : B q = 96 + 16 * j + k) (hj : j < n) (hk : k = 15) (hf : ∀ i, i < n → xfr U TH Z i = false) (ob : Nat) (kO : ClassId) (f : Nat → Int64) (sz : Nat) (sz0 : Nat) (sa : Nat → Nat) (hl0 : l.stackTraces = false) : Met l yL_take (xwH yL_take cL_take 4 (some .int) [(0, 9, 12, 13), (0, 9, 15, 15)]) ({ frames := 7, cells := 1, slots := 6, locals := 113 }) (xk_MX [.ref (A 0), .int (nI q), .ref ob] D (xc_T K ++ [(kO, .long)]) (xc_W A K n U TH AG Z B TK ++ xo_W ob kO f) sz sz0 sa) (xk_Q (fun v => v = some (.int 2)) D (xc_W A K n U TH AG Z B TK ++ xo_W ob kO f) (xc_W A K n U TH AG Z B TK ++ xo_W ob kO f)) 1 6 (va_A (xc_W A K n U TH AG Z B TK ++ xo_W ob kO f) sz) := by
  refine xt_ofWith (cc := cL_take) (maxL := 4) (ret := some .int) (hs := [(0, 9, 12, 13), (0, 9, 15, 15)]) (by decide) rfl ?_
  intro p e s m args below meth c s₁ B0 hml htab hv
  obtain ⟨rfl, hsz, hP, hK, hD0, hX⟩ := hv
  have hx := B0.exec
  have hb := B0.bytes
  have hr := B0.returns
  have ht : ∀ w ∈ xT, w.before _ s = true := fun w h => atoms_spec (ws := xwH yL_take cL_take 4 (some .int) [(0, 9, 12, 13), (0, 9, 15, 15)]) B0.pre w (List.mem_cons_of_mem _ h)
  have hown : s.vm.findClass RL = some m.cls := findClass_of_methodNamed B0.named
  have hlocks := B0.notSynchronized
  subst hsz
  have hD := hD0.self (sz := s.heap.size)
  have hA : ∀ q : Nat, s.heap.size ≤ q → va_A (xc_W A K n U TH AG Z B TK ++ xo_W ob kO f) s.heap.size q := fun q h => Or.inr h
  have hS : va_S (va_A (xc_W A K n U TH AG Z B TK ++ xo_W ob kO f) s.heap.size) s.heap s.heap [] := va_S.rf
  have hPc := xP_l hP
  have hDc := xD_l hD
  have hKc : va_K D xcl (xc_T K) s := hK.sub [0, 1, 2, 3, 4] rfl
  have hl := lv_entry ([.ref (A 0), .int (nI q), .ref ob]) (n := 4) (Nat.le_of_ble_eq_true rfl)
  rw [lg_entry_eq]
  generalize (lg_sl ([.ref (A 0), .int (nI q), .ref ob]) ++ List.replicate (4 - (lg_sl ([.ref (A 0), .int (nI q), .ref ob])).length) Slot.unset).toArray = ls at hl ⊢
  have hl : lv_has ls 4 [(0, .ref (A 0)), (1, .int (nI q)), (2, .ref ob)] := hl
  refine lv_aload_n hx hb dL_take_0 rfl (lv_at hl 2 rfl) ?_
  refine lv_iconst (v := 0) hx hb dL_take_1 (by decide) ?_
  refine lv_aload_n hx hb dL_take_2 rfl (lv_at hl 0 rfl) ?_
  refine lv_iload_n hx hb dL_take_3 rfl (lv_at hl 1 rfl) ?_
  refine xh_i (E0 := xIS) (pre := [⟨0, 9, 12, 13⟩]) (suf := []) (x := ⟨0, 9, 15, 15⟩) (vx_runV (As := [.int (nI q)]) (rest := [.int 0, .ref ob]) ⟨hx, hb, hml, hown, ht⟩ (c_take_full l D A K n U TH AG Z B TK hn hU hT q j k hq hB hj hk hf sz0 sa hl0) (cwV 1 ht (xg_V kml_RL_7 kim_yX0_take ksl_yX0_take kin_RX0 kco_yX0_take) rfl rfl rfl (by decide +kernel) ⟨Nat.le_of_ble_eq_true rfl, Nat.le_of_ble_eq_true rfl⟩) (xk_preX hPc hKc hX (fun _ _ _ => rfl) rfl rfl) rfl rfl hl.1 rfl (lv_room (Nat.le_of_ble_eq_true rfl)) dL_take_4 ⟨Nat.le_of_ble_eq_true rfl, Nat.le_of_ble_eq_true rfl⟩) hown htab (fun z hz => by cases List.mem_singleton.mp hz; exact Or.inr ⟨by decide, _, ht _ kcl_RL_13, hX.2.2.2.2.2.2.2.2.2⟩) (by decide) (by decide) (ht _ kcl_RL_15) (va_Nw.use (xN_tab _ (by decide +kernel)) (hX.2.2.1 (.castable xIS xIS) (by decide +kernel))) (fun y9 H locs hS9 => ?_)
  have hP : va_P D xcl (xc_W A K n U TH AG Z B TK ++ xo_W ob kO f) H := hP.kept (fun k q hk => hS9.2.1 q.1 ((hP k q hk).lt) id)
  have hS : va_S (va_A (xc_W A K n U TH AG Z B TK ++ xo_W ob kO f) s.heap.size) s.heap H locs := ⟨hS9.1, fun q h1 _ => hS9.2.1 q h1 id, fun q hq => (hS9.2.2 q hq).elim⟩
  refine lv_astore_n (lv' := [(3, .ref y9), (0, .ref (A 0)), (1, .int (nI q)), (2, .ref ob)]) hx hb dL_take_15 rfl hl (by decide) rfl (fun ls hl => ?_)
  refine lv_iconst (v := 2) hx hb dL_take_16 (by decide) ?_
  exact W.iret (v := 2) hx hb hr (fun t ht hW => ⟨⟨_, rfl, rfl⟩, by rw [ht]; exact hP, hS.F ht⟩) hS.2.2 dL_take_17

set_option maxHeartbeats 4000000 in
set_option maxRecDepth 100000 in
/-- take -/
theorem h_take_bad (l : Launch) (D : va_G) (A : Nat → Nat) (K : Nat → ClassId) (n : Nat) (U TH AG : Nat → Nat) (Z : Nat → Bool) (B : Nat → Nat) (TK : Nat) (x : Int32) (hbad : ¬ ∃ j : Nat, j < 6 ∧ x = nI j) (ob : Nat) (kO : ClassId) (f : Nat → Int64) (sz : Nat) (sz0 : Nat) (sa : Nat → Nat) (hl0 : l.stackTraces = false) : Met l yL_take (xwH yL_take cL_take 4 (some .int) [(0, 9, 12, 13), (0, 9, 15, 15)]) ({ frames := 7, cells := 1, slots := 6, locals := 113 }) (xk_MX [.ref (A 0), .int x, .ref ob] D (xc_T K ++ [(kO, .long)]) (xc_W A K n U TH AG Z B TK ++ xo_W ob kO f) sz sz0 sa) (xk_Q (fun v => v = some (.int 1)) D (xc_W A K n U TH AG Z B TK ++ xo_W ob kO f) (xc_W A K n U TH AG Z B TK ++ xo_W ob kO f)) 1 6 (va_A (xc_W A K n U TH AG Z B TK ++ xo_W ob kO f) sz) := by
  refine xt_ofWith (cc := cL_take) (maxL := 4) (ret := some .int) (hs := [(0, 9, 12, 13), (0, 9, 15, 15)]) (by decide) rfl ?_
  intro p e s m args below meth c s₁ B0 hml htab hv
  obtain ⟨rfl, hsz, hP, hK, hD0, hX⟩ := hv
  have hx := B0.exec
  have hb := B0.bytes
  have hr := B0.returns
  have ht : ∀ w ∈ xT, w.before _ s = true := fun w h => atoms_spec (ws := xwH yL_take cL_take 4 (some .int) [(0, 9, 12, 13), (0, 9, 15, 15)]) B0.pre w (List.mem_cons_of_mem _ h)
  have hown : s.vm.findClass RL = some m.cls := findClass_of_methodNamed B0.named
  have hlocks := B0.notSynchronized
  subst hsz
  have hD := hD0.self (sz := s.heap.size)
  have hA : ∀ q : Nat, s.heap.size ≤ q → va_A (xc_W A K n U TH AG Z B TK ++ xo_W ob kO f) s.heap.size q := fun q h => Or.inr h
  have hS : va_S (va_A (xc_W A K n U TH AG Z B TK ++ xo_W ob kO f) s.heap.size) s.heap s.heap [] := va_S.rf
  have hPc := xP_l hP
  have hDc := xD_l hD
  have hKc : va_K D xcl (xc_T K) s := hK.sub [0, 1, 2, 3, 4] rfl
  have hl := lv_entry ([.ref (A 0), .int x, .ref ob]) (n := 4) (Nat.le_of_ble_eq_true rfl)
  rw [lg_entry_eq]
  generalize (lg_sl ([.ref (A 0), .int x, .ref ob]) ++ List.replicate (4 - (lg_sl ([.ref (A 0), .int x, .ref ob])).length) Slot.unset).toArray = ls at hl ⊢
  have hl : lv_has ls 4 [(0, .ref (A 0)), (1, .int x), (2, .ref ob)] := hl
  refine lv_aload_n hx hb dL_take_0 rfl (lv_at hl 2 rfl) ?_
  refine lv_iconst (v := 0) hx hb dL_take_1 (by decide) ?_
  refine lv_aload_n hx hb dL_take_2 rfl (lv_at hl 0 rfl) ?_
  refine lv_iload_n hx hb dL_take_3 rfl (lv_at hl 1 rfl) ?_
  refine xh_i (E0 := xIA) (pre := []) (suf := [⟨0, 9, 15, 15⟩]) (x := ⟨0, 9, 12, 13⟩) (vx_runV (As := [.int x]) (rest := [.int 0, .ref ob]) ⟨hx, hb, hml, hown, ht⟩ (c_take_bad l D A K n U TH AG Z B TK x hbad sz0 sa hl0) (cwV 1 ht (xg_V kml_RL_7 kim_yX0_take ksl_yX0_take kin_RX0 kco_yX0_take) rfl rfl rfl (by decide +kernel) ⟨Nat.le_of_ble_eq_true rfl, Nat.le_of_ble_eq_true rfl⟩) (xk_preX hPc hKc hX (fun _ _ _ => rfl) rfl rfl) rfl rfl hl.1 rfl (lv_room (Nat.le_of_ble_eq_true rfl)) dL_take_4 ⟨Nat.le_of_ble_eq_true rfl, Nat.le_of_ble_eq_true rfl⟩) hown htab (fun z hz => by cases hz) (by decide) (by decide) (ht _ kcl_RL_13) (va_Nw.use (xN_tab _ (by decide +kernel)) (hX.2.2.1 (.castable xIA xIA) (by decide +kernel))) (fun y9 H locs hS9 => ?_)
  have hP : va_P D xcl (xc_W A K n U TH AG Z B TK ++ xo_W ob kO f) H := hP.kept (fun k q hk => hS9.2.1 q.1 ((hP k q hk).lt) id)
  have hS : va_S (va_A (xc_W A K n U TH AG Z B TK ++ xo_W ob kO f) s.heap.size) s.heap H locs := ⟨hS9.1, fun q h1 _ => hS9.2.1 q h1 id, fun q hq => (hS9.2.2 q hq).elim⟩
  refine lv_astore_n (lv' := [(3, .ref y9), (0, .ref (A 0)), (1, .int x), (2, .ref ob)]) hx hb dL_take_12 rfl hl (by decide) rfl (fun ls hl => ?_)
  refine lv_iconst (v := 1) hx hb dL_take_13 (by decide) ?_
  exact W.iret (v := 1) hx hb hr (fun t ht hW => ⟨⟨_, rfl, rfl⟩, by rw [ht]; exact hP, hS.F ht⟩) hS.2.2 dL_take_14
