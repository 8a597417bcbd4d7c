/-- the segments that the first i logs have open -/
def xop (OP : Nat → Nat) : Nat → Nat → Bool
  | 0 => fun _ => false
  | i + 1 => va_up (xop OP i) (OP i) true
theorem xop_up (OP : Nat → Nat) (i : Nat) : va_up (xop OP i) (OP i) true = xop OP (i + 1) := rfl
set_option maxHeartbeats 4000000 in
set_option maxRecDepth 100000 in
/-- markTaken -/
theorem c_markTaken (l : Launch) (D : va_G) (A : Nat → Nat) (K : Nat → ClassId) (n : Nat) (U TH AG : Nat → Nat) (Z : Nat → Bool) (B : Nat → Nat) (TK : Nat) (hn : n ≤ 128) (j : Nat) (hj : j < n) (sz : Nat) : Met l yX0_markTaken (xw yX0_markTaken cX0_markTaken 2 none) ({ frames := 1, cells := 0, slots := 0, locals := 21 }) (xk_M [.ref (A 0), .int (nI j)] D (xc_T K) (xc_W A K n U TH AG Z B TK) sz) (xk_Q (fun v => v = none) D (xc_W A K n U TH AG Z B TK) (xc_W A K n U TH AG (va_up Z j true) B TK)) 0 0 (va_A (xc_W A K n U TH AG Z B TK) sz) := by
  refine Met.ofW (cc := cX0_markTaken) (maxL := 2) (ret := none) (by decide) rfl ?_
  intro p e s m args below meth c s₁ B0 hml hv
  obtain ⟨rfl, hsz, hP, hK, hD0⟩ := hv
  have hx := B0.exec
  have hb := B0.bytes
  have hr := B0.returns
  have ht : ∀ w ∈ xT, w.before _ s = true := fun w h => atoms_spec (ws := xw yX0_markTaken cX0_markTaken 2 none) B0.pre w (List.mem_cons_of_mem _ h)
  have hown : s.vm.findClass RX0 = some m.cls := findClass_of_methodNamed B0.named
  have hlocks := B0.notSynchronized
  have hl := lv_entry ([.ref (A 0), .int (nI j)]) (n := 2) (Nat.le_of_ble_eq_true rfl)
  rw [lg_entry_eq]
  generalize (lg_sl ([.ref (A 0), .int (nI j)]) ++ List.replicate (2 - (lg_sl ([.ref (A 0), .int (nI j)])).length) Slot.unset).toArray = ls at hl ⊢
  have hl : lv_has ls 2 [(0, .ref (A 0)), (1, .int (nI j))] := hl
  subst hsz
  have hD := hD0.self (sz := s.heap.size)
  have hA : ∀ q : Nat, s.heap.size ≤ q → va_A (xc_W A K n U TH AG Z B TK) s.heap.size q := fun q h => Or.inr h
  have hS : va_S (va_A (xc_W A K n U TH AG Z B TK) s.heap.size) s.heap s.heap [] := va_S.rf
  refine lv_aload_n hx hb dX0_markTaken_0 rfl (lv_at hl 0 rfl) ?_
  refine lv_iload_n hx hb dX0_markTaken_1 rfl (lv_at hl 1 rfl) ?_
  refine xr_V (n := 1) (As := [.int (nI j)]) (rest := []) ⟨hx, hb, hml, hown, ht⟩ (c_isSegment l D A K n U TH AG Z B TK (nI j) hn) (xg_V kml_RX0_93 kim_yX0_isSegment ksl_yX0_isSegment kin_RX0 kco_yX0_isSegment) ⟨rfl, rfl⟩ (by decide +kernel) ⟨Nat.le_of_ble_eq_true rfl, Nat.le_of_ble_eq_true rfl⟩ (xk_preV hP hK rfl rfl) rfl hl.1 rfl (Nat.le_of_ble_eq_true rfl) dX0_markTaken_2 ⟨Nat.zero_le _, Nat.zero_le _⟩ (fun r1 e1 => ?_)
  have e1 : r1 = 1 := e1.elim (fun q => q.choose_spec.2.2) (fun q => absurd ⟨j, hj, rfl⟩ q.1)
  subst e1
  refine lv_if_eq (tgt := 15) hx hb dX0_markTaken_5 (by decide) (fun h0 => ?_) (fun h0 => ?_)
  · exact absurd h0 (by decide)
  · refine lv_aload_n hx hb dX0_markTaken_8 rfl (lv_at hl 0 rfl) ?_
    refine va_get (D := D) (ci := 0) (v := .ref (A 4)) (C := RX0) (T := TX0) (N := 7) hx hb ht xin_X0 hown hK hP 0 rfl rfl 4 (by decide) (ht _ kfl_RX0_23) (fun _ h9 => h9) rfl dX0_markTaken_9 ?_
    refine lv_iload_n hx hb dX0_markTaken_12 rfl (lv_at hl 1 rfl) ?_
    refine lv_iconst (v := 1) hx hb dX0_markTaken_13 (by decide) ?_
    refine xa_zst hx hb hK hP hD hS 4 3 rfl rfl hj (by omega) (xu_z Z j true) dX0_markTaken_14 (fun H locs hP hD hS => ?_)
    have hP : va_P D xcl (xc_W A K n U TH AG (va_up Z j true) B TK) H := hP
    have hD : va_D (va_A (xc_W A K n U TH AG Z B TK) s.heap.size) (xc_W A K n U TH AG (va_up Z j true) B TK) := hD
    exact W.vret hx hb hr (fun t ht hW => ⟨⟨none, rfl, rfl⟩, by rw [ht]; exact hP, hS.F ht⟩) hS.2.2 dX0_markTaken_15

set_option maxHeartbeats 4000000 in
set_option maxRecDepth 100000 in
/-- putInUse -/
theorem c_putInUse (l : Launch) (D : va_G) (A : Nat → Nat) (K : Nat → ClassId) (n : Nat) (U TH AG : Nat → Nat) (Z : Nat → Bool) (B : Nat → Nat) (TK : Nat) (hn : n ≤ 128) (j k : Nat) (hj : j < n) (hk : k < 16) (sz : Nat) : Met l yX0_putInUse (xw yX0_putInUse cX0_putInUse 3 none) ({ frames := 2, cells := 0, slots := 0, locals := 41 }) (xk_M [.ref (A 0), .int (nI (96 + 16 * j + k))] D (xc_T K) (xc_W A K n U TH AG Z B TK) sz) (xk_Q (fun v => v = none) D (xc_W A K n U TH AG Z B TK) (xc_W A K n (va_up U j (U j ||| 2 ^ k)) TH (va_up AG j (TK + 1)) Z B (TK + 1))) 0 0 (va_A (xc_W A K n U TH AG Z B TK) sz) := by
  refine Met.ofW (cc := cX0_putInUse) (maxL := 3) (ret := none) (by decide) rfl ?_
  intro p e s m args below meth c s₁ B0 hml hv
  obtain ⟨rfl, hsz, hP, hK, hD0⟩ := hv
  have hx := B0.exec
  have hb := B0.bytes
  have hr := B0.returns
  have ht : ∀ w ∈ xT, w.before _ s = true := fun w h => atoms_spec (ws := xw yX0_putInUse cX0_putInUse 3 none) B0.pre w (List.mem_cons_of_mem _ h)
  have hown : s.vm.findClass RX0 = some m.cls := findClass_of_methodNamed B0.named
  have hlocks := B0.notSynchronized
  have hl := lv_entry ([.ref (A 0), .int (nI (96 + 16 * j + k))]) (n := 3) (Nat.le_of_ble_eq_true rfl)
  rw [lg_entry_eq]
  generalize (lg_sl ([.ref (A 0), .int (nI (96 + 16 * j + k))]) ++ List.replicate (3 - (lg_sl ([.ref (A 0), .int (nI (96 + 16 * j + k))])).length) Slot.unset).toArray = ls at hl ⊢
  have hl : lv_has ls 3 [(0, .ref (A 0)), (1, .int (nI (96 + 16 * j + k)))] := hl
  subst hsz
  have hD := hD0.self (sz := s.heap.size)
  have hA : ∀ q : Nat, s.heap.size ≤ q → va_A (xc_W A K n U TH AG Z B TK) s.heap.size q := fun q h => Or.inr h
  have hS : va_S (va_A (xc_W A K n U TH AG Z B TK) s.heap.size) s.heap s.heap [] := va_S.rf
  refine lv_aload_n hx hb dX0_putInUse_0 rfl (lv_at hl 0 rfl) ?_
  refine lv_iload_n hx hb dX0_putInUse_1 rfl (lv_at hl 1 rfl) ?_
  refine xr_V (n := 1) (As := [.int (nI (96 + 16 * j + k))]) (rest := []) ⟨hx, hb, hml, hown, ht⟩ (c_segmentOf l D A K n U TH AG Z B TK (nI (96 + 16 * j + k)) hn) (xg_V kml_RX0_64 kim_yX0_segmentOf ksl_yX0_segmentOf kin_RX0 kco_yX0_segmentOf) ⟨rfl, rfl⟩ (by decide +kernel) ⟨Nat.le_of_ble_eq_true rfl, Nat.le_of_ble_eq_true rfl⟩ (xk_preV hP hK rfl rfl) rfl hl.1 rfl (Nat.le_of_ble_eq_true rfl) dX0_putInUse_2 ⟨Nat.zero_le _, Nat.zero_le _⟩ (fun r1 e1 => ?_)
  have e1 : r1 = nI j := by
    rcases e1 with ⟨j9, k9, hj9, hk9, e9, rfl⟩ | ⟨q9, -⟩
    · have e9 := (nI_eq (by omega) (by omega)).mp e9; congr 1; omega
    · exact absurd ⟨j, k, by omega, by omega, rfl⟩ q9
  subst e1
  refine lv_istore_n (lv' := [(2, .int (nI j)), (0, .ref (A 0)), (1, .int (nI (96 + 16 * j + k)))]) hx hb dX0_putInUse_5 rfl hl (by decide) rfl (fun ls hl => ?_)
  refine lv_iload_n hx hb dX0_putInUse_6 rfl (lv_at hl 0 rfl) ?_
  refine lv_iconst (v := -1) hx hb dX0_putInUse_7 (by decide) ?_
  refine lv_icmp_ne (tgt := 12) hx hb dX0_putInUse_8 (by decide) (fun h0 => ?_) (fun h0 => ?_)
  · refine lv_aload_n hx hb dX0_putInUse_12 rfl (lv_at hl 1 rfl) ?_
    refine lv_dup hx hb dX0_putInUse_13 rfl ?_
    refine va_get (D := D) (ci := 0) (v := .int (nI TK)) (C := RX0) (T := TX0) (N := 7) hx hb ht xin_X0 hown hK hP 0 rfl rfl 6 (by decide) (ht _ kfl_RX0_30) (fun _ h9 => h9) rfl dX0_putInUse_14 ?_
    refine lv_iconst (v := 1) hx hb dX0_putInUse_17 (by decide) ?_
    refine lv_iadd hx hb dX0_putInUse_18 ?_
    refine xa_top (y := nI (TK + 1)) (nI_1 TK) ?_
    refine va_put (D := D) (ci := 0) (v := .int (nI (TK + 1))) (ty := .int) (C := RX0) (T := TX0) (N := 7) hx hb ht xin_X0 tyX0 tyX0_ok nmX0 hown hK hP hD hS 0 rfl rfl 6 (by decide) (ht _ kfl_RX0_30) (fun _ h9 => h9) rfl (by decide +kernel) rfl rfl (Nat.le_of_ble_eq_true rfl) dX0_putInUse_19 (fun H locs hP hD hS => ?_)
    have hP : va_P D xcl (xc_W A K n U TH AG Z B (TK + 1)) H := hP
    have hD : va_D (va_A (xc_W A K n U TH AG Z B TK) s.heap.size) (xc_W A K n U TH AG Z B (TK + 1)) := hD
    refine lv_aload_n hx hb dX0_putInUse_22 rfl (lv_at hl 1 rfl) ?_
    refine va_get (D := D) (ci := 0) (v := .ref (A 1)) (C := RX0) (T := TX0) (N := 7) hx hb ht xin_X0 hown hK hP 0 rfl rfl 1 (by decide) (ht _ kfl_RX0_13) (fun _ h9 => h9) rfl dX0_putInUse_23 ?_
    refine lv_iload_n hx hb dX0_putInUse_26 rfl (lv_at hl 0 rfl) ?_
    refine lv_dup2_11 hx hb dX0_putInUse_27 rfl rfl ?_
    refine xa_ild hx hb hK hP 1 0 rfl rfl (v := nI (U j)) hj (by omega) rfl dX0_putInUse_28 ?_
    refine lv_iload_n hx hb dX0_putInUse_29 rfl (lv_at hl 2 rfl) ?_
    refine xr_S (n := 1) (As := [.int (nI (96 + 16 * j + k))]) (rest := [.int (nI (U j)), .int (nI j), .ref (A 1)]) ⟨hx, hb, hml, hown, ht⟩ (c_bitOf l j k (by omega) hk) (xg_S kml_RX0_69 kst_yX0_bitOf kin_RX0 kco_yX0_bitOf) ⟨rfl, rfl⟩ (by decide +kernel) ⟨Nat.le_of_ble_eq_true rfl, Nat.le_of_ble_eq_true rfl⟩ xk_preE rfl hl.1 rfl (Nat.le_of_ble_eq_true rfl) dX0_putInUse_30 ⟨Nat.zero_le _, Nat.zero_le _⟩ (fun r2 e2 => ?_)
    subst e2
    refine lv_ior hx hb dX0_putInUse_33 ?_
    refine xa_top (y := nI (U j ||| 2 ^ k)) (xor' _ _) ?_
    refine xa_ist hx hb hK hP hD hS 1 0 rfl rfl hj (by omega) (xu_n U j _) dX0_putInUse_34 (fun H locs hP hD hS => ?_)
    have hP : va_P D xcl (xc_W A K n (va_up U j (U j ||| 2 ^ k)) TH AG Z B (TK + 1)) H := hP
    have hD : va_D (va_A (xc_W A K n U TH AG Z B TK) s.heap.size) (xc_W A K n (va_up U j (U j ||| 2 ^ k)) TH AG Z B (TK + 1)) := hD
    refine lv_aload_n hx hb dX0_putInUse_35 rfl (lv_at hl 1 rfl) ?_
    refine va_get (D := D) (ci := 0) (v := .ref (A 3)) (C := RX0) (T := TX0) (N := 7) hx hb ht xin_X0 hown hK hP 0 rfl rfl 3 (by decide) (ht _ kfl_RX0_20) (fun _ h9 => h9) rfl dX0_putInUse_36 ?_
    refine lv_iload_n hx hb dX0_putInUse_39 rfl (lv_at hl 0 rfl) ?_
    refine lv_aload_n hx hb dX0_putInUse_40 rfl (lv_at hl 1 rfl) ?_
    refine va_get (D := D) (ci := 0) (v := .int (nI (TK + 1))) (C := RX0) (T := TX0) (N := 7) hx hb ht xin_X0 hown hK hP 0 rfl rfl 6 (by decide) (ht _ kfl_RX0_30) (fun _ h9 => h9) rfl dX0_putInUse_41 ?_
    refine xa_ist hx hb hK hP hD hS 3 2 rfl rfl hj (by omega) (xu_n AG j _) dX0_putInUse_44 (fun H locs hP hD hS => ?_)
    have hP : va_P D xcl (xc_W A K n (va_up U j (U j ||| 2 ^ k)) TH (va_up AG j (TK + 1)) Z B (TK + 1)) H := hP
    have hD : va_D (va_A (xc_W A K n U TH AG Z B TK) s.heap.size) (xc_W A K n (va_up U j (U j ||| 2 ^ k)) TH (va_up AG j (TK + 1)) Z B (TK + 1)) := hD
    exact W.vret hx hb hr (fun t ht hW => ⟨⟨none, rfl, rfl⟩, by rw [ht]; exact hP, hS.F ht⟩) hS.2.2 dX0_putInUse_45
  · exact absurd h0 (xp_m1 (by omega))

set_option maxHeartbeats 4000000 in
set_option maxRecDepth 100000 in
/-- moveLog -/
theorem c_moveLog (l : Launch) (D : va_G) (A : Nat → Nat) (K : Nat → ClassId) (n : Nat) (U TH AG : Nat → Nat) (Z : Nat → Bool) (B : Nat → Nat) (TK : Nat) (hn : n ≤ 128) (q j k : Nat) (hq : q < 6) (hj : j < n) (hk : k < 16) (sz : Nat) : Met l yX0_moveLog (xw yX0_moveLog cX0_moveLog 3 none) ({ frames := 2, cells := 0, slots := 0, locals := 42 }) (xk_M [.ref (A 0), .int (nI q), .int (nI (96 + 16 * j + k))] D (xc_T K) (xc_W A K n U TH AG Z B TK) sz) (xk_Q (fun v => v = none) D (xc_W A K n U TH AG Z B TK) (xc_W A K n U TH AG (va_up Z j true) (va_up B q (96 + 16 * j + k)) TK)) 0 0 (va_A (xc_W A K n U TH AG Z B TK) sz) := by
  refine Met.ofW (cc := cX0_moveLog) (maxL := 3) (ret := none) (by decide) rfl ?_
  intro p e s m args below meth c s₁ B0 hml hv
  obtain ⟨rfl, hsz, hP, hK, hD0⟩ := hv
  have hx := B0.exec
  have hb := B0.bytes
  have hr := B0.returns
  have ht : ∀ w ∈ xT, w.before _ s = true := fun w h => atoms_spec (ws := xw yX0_moveLog cX0_moveLog 3 none) B0.pre w (List.mem_cons_of_mem _ h)
  have hown : s.vm.findClass RX0 = some m.cls := findClass_of_methodNamed B0.named
  have hlocks := B0.notSynchronized
  have hl := lv_entry ([.ref (A 0), .int (nI q), .int (nI (96 + 16 * j + k))]) (n := 3) (Nat.le_of_ble_eq_true rfl)
  rw [lg_entry_eq]
  generalize (lg_sl ([.ref (A 0), .int (nI q), .int (nI (96 + 16 * j + k))]) ++ List.replicate (3 - (lg_sl ([.ref (A 0), .int (nI q), .int (nI (96 + 16 * j + k))])).length) Slot.unset).toArray = ls at hl ⊢
  have hl : lv_has ls 3 [(0, .ref (A 0)), (1, .int (nI q)), (2, .int (nI (96 + 16 * j + k)))] := hl
  subst hsz
  have hD := hD0.self (sz := s.heap.size)
  have hA : ∀ q : Nat, s.heap.size ≤ q → va_A (xc_W A K n U TH AG Z B TK) s.heap.size q := fun q h => Or.inr h
  have hS : va_S (va_A (xc_W A K n U TH AG Z B TK) s.heap.size) s.heap s.heap [] := va_S.rf
  refine lv_iload_n hx hb dX0_moveLog_0 rfl (lv_at hl 1 rfl) ?_
  refine xr_S (n := 1) (As := [.int (nI q)]) (rest := []) ⟨hx, hb, hml, hown, ht⟩ (c_isLog l (nI q)) (xg_S kml_RX0_37 kst_yX0_isLog kin_RX0 kco_yX0_isLog) ⟨rfl, rfl⟩ (by decide +kernel) ⟨Nat.le_of_ble_eq_true rfl, Nat.le_of_ble_eq_true rfl⟩ xk_preE rfl hl.1 rfl (Nat.le_of_ble_eq_true rfl) dX0_moveLog_1 ⟨Nat.zero_le _, Nat.zero_le _⟩ (fun r1 e1 => ?_)
  have e1 : r1 = 1 := e1.elim (fun z => z.choose_spec.2.2) (fun z => absurd ⟨q, hq, rfl⟩ z.1)
  subst e1
  refine lv_if_eq (tgt := 23) hx hb dX0_moveLog_4 (by decide) (fun h0 => ?_) (fun h0 => ?_)
  · exact absurd h0 (by decide)
  · refine lv_aload_n hx hb dX0_moveLog_7 rfl (lv_at hl 0 rfl) ?_
    refine va_get (D := D) (ci := 0) (v := .ref (A 5)) (C := RX0) (T := TX0) (N := 7) hx hb ht xin_X0 hown hK hP 0 rfl rfl 5 (by decide) (ht _ kfl_RX0_27) (fun _ h9 => h9) rfl dX0_moveLog_8 ?_
    refine lv_iload_n hx hb dX0_moveLog_11 rfl (lv_at hl 1 rfl) ?_
    refine lv_iload_n hx hb dX0_moveLog_12 rfl (lv_at hl 2 rfl) ?_
    refine xa_ist hx hb hK hP hD hS 5 4 rfl rfl hq (by omega) (xu_n B q _) dX0_moveLog_13 (fun H locs hP hD hS => ?_)
    have hP : va_P D xcl (xc_W A K n U TH AG Z (va_up B q (96 + 16 * j + k)) TK) H := hP
    have hD : va_D (va_A (xc_W A K n U TH AG Z B TK) s.heap.size) (xc_W A K n U TH AG Z (va_up B q (96 + 16 * j + k)) TK) := hD
    refine lv_aload_n hx hb dX0_moveLog_14 rfl (lv_at hl 0 rfl) ?_
    refine lv_aload_n hx hb dX0_moveLog_15 rfl (lv_at hl 0 rfl) ?_
    refine lv_iload_n hx hb dX0_moveLog_16 rfl (lv_at hl 2 rfl) ?_
    refine xr_V (n := 1) (As := [.int (nI (96 + 16 * j + k))]) (rest := [.ref (A 0)]) ⟨hx, hb, hml, hown, ht⟩ (c_segmentOf l D A K n U TH AG Z (va_up B q (96 + 16 * j + k)) TK (nI (96 + 16 * j + k)) hn) (xg_V kml_RX0_64 kim_yX0_segmentOf ksl_yX0_segmentOf kin_RX0 kco_yX0_segmentOf) ⟨rfl, rfl⟩ (by decide +kernel) ⟨Nat.le_of_ble_eq_true rfl, Nat.le_of_ble_eq_true rfl⟩ (xk_preV hP hK rfl rfl) rfl hl.1 rfl (Nat.le_of_ble_eq_true rfl) dX0_moveLog_17 ⟨Nat.zero_le _, Nat.zero_le _⟩ (fun r2 e2 => ?_)
    have e2 : r2 = nI j := by
      rcases e2 with ⟨j9, k9, hj9, hk9, e9, rfl⟩ | ⟨q9, -⟩
      · have e9 := (nI_eq (by omega) (by omega)).mp e9; congr 1; omega
      · exact absurd ⟨j, k, by omega, by omega, rfl⟩ q9
    subst e2
    refine xr_M (n := 1) (As := [.int (nI j)]) (rest := []) ⟨hx, hb, hml, hown, ht⟩ (c_markTaken l D A K n U TH AG Z (va_up B q (96 + 16 * j + k)) TK hn j hj H.size) (xg_V kml_RX0_74 kim_yX0_markTaken ksl_yX0_markTaken kin_RX0 kco_yX0_markTaken) ⟨rfl, rfl⟩ (by decide +kernel) ⟨Nat.le_of_ble_eq_true rfl, Nat.le_of_ble_eq_true rfl⟩ hP hK hD hS hA rfl rfl rfl rfl hl.1 rfl (Nat.le_of_ble_eq_true rfl) dX0_moveLog_20 ⟨Nat.zero_le _, Nat.zero_le _⟩ (fun v9 H locs e9 hP hD hS => ?_)
    subst e9
    exact W.vret hx hb hr (fun t ht hW => ⟨⟨none, rfl, rfl⟩, by rw [ht]; exact hP, hS.F ht⟩) hS.2.2 dX0_moveLog_23

set_option maxHeartbeats 4000000 in
set_option maxRecDepth 100000 in
/-- checkpoint -/
theorem c_checkpoint (l : Launch) (D : va_G) (A : Nat → Nat) (K : Nat → ClassId) (n : Nat) (U TH AG : Nat → Nat) (Z : Nat → Bool) (B : Nat → Nat) (TK : Nat) (OP NX : Nat → Nat) (hn : n ≤ 128) (hU : ∀ j, U j < 65536) (hB : ∀ q, q < 6 → B q = 96 + 16 * OP q + NX q ∧ OP q < n ∧ NX q < 16) (hz : ∀ j, n ≤ j → TH j = U j ∧ Z j = false) (sz : Nat) : Met l yX0_checkpoint (xw yX0_checkpoint cX0_checkpoint 2 (some .int)) ({ frames := 3, cells := 0, slots := 0, locals := 64 }) (xk_M [.ref (A 0)] D (xc_T K) (xc_W A K n U TH AG Z B TK) sz) (xk_Q (fun v => v = some (.int (nI (xcnt (fun j => (xfr U U (xop OP 6) j).toNat) n)))) D (xc_W A K n U TH AG Z B TK) (xc_W A K n U U AG (xop OP 6) B TK)) 0 0 (va_A (xc_W A K n U TH AG Z B TK) sz) := by
  refine Met.ofW (cc := cX0_checkpoint) (maxL := 2) (ret := (some .int)) (by decide) rfl ?_
  intro p e s m args below meth c s₁ B0 hml hv
  obtain ⟨rfl, hsz, hP, hK, hD0⟩ := hv
  have hx := B0.exec
  have hb := B0.bytes
  have hr := B0.returns
  have ht : ∀ w ∈ xT, w.before _ s = true := fun w h => atoms_spec (ws := xw yX0_checkpoint cX0_checkpoint 2 (some .int)) B0.pre w (List.mem_cons_of_mem _ h)
  have hown : s.vm.findClass RX0 = some m.cls := findClass_of_methodNamed B0.named
  have hlocks := B0.notSynchronized
  have hl := lv_entry ([.ref (A 0)]) (n := 2) (Nat.le_of_ble_eq_true rfl)
  rw [lg_entry_eq]
  generalize (lg_sl ([.ref (A 0)]) ++ List.replicate (2 - (lg_sl ([.ref (A 0)])).length) Slot.unset).toArray = ls at hl ⊢
  have hl : lv_has ls 2 [(0, .ref (A 0))] := hl
  subst hsz
  have hD := hD0.self (sz := s.heap.size)
  have hA : ∀ q : Nat, s.heap.size ≤ q → va_A (xc_W A K n U TH AG Z B TK) s.heap.size q := fun q h => Or.inr h
  have hS : va_S (va_A (xc_W A K n U TH AG Z B TK) s.heap.size) s.heap s.heap [] := va_S.rf
  have loop2 : ∀ (f i : Nat) (H : Heap) (locs : List Loc), i ≤ 6 → 7 ≤ i + f → va_P D xcl (xc_W A K n U U AG (xop OP i) B TK) H → va_D (va_A (xc_W A K n U TH AG Z B TK) s.heap.size) (xc_W A K n U U AG (xop OP i) B TK) → va_S (va_A (xc_W A K n U TH AG Z B TK) s.heap.size) s.heap H locs → ∀ ls : Array Slot, lv_has ls 2 [(1, .int (nI i)), (0, .ref (A 0))] → W p l e (headSpec (xw yX0_checkpoint cX0_checkpoint 2 (some .int)) ({ frames := 3, cells := 0, slots := 0, locals := 64 })).room s m ([.ref (A 0)] : List Value).toArray below meth c H locs 0 0 (MQ below (xk_Q (fun v => v = some (.int (nI (xcnt (fun j => (xfr U U (xop OP 6) j).toNat) n)))) D (xc_W A K n U TH AG Z B TK) (xc_W A K n U U AG (xop OP 6) B TK)) ([.ref (A 0)] : List Value).toArray s 0 0 (va_A (xc_W A K n U TH AG Z B TK) s.heap.size)) (F0 m 37 ls []) := by
    intro f
    induction f with
    | zero => intro i H locs h1 h2; exact absurd h2 (by omega)
    | succ f ih =>
      intro i H locs hi hf hP hD hS ls hl
      refine lv_iload_n hx hb dX0_checkpoint_37 rfl (lv_at hl 0 rfl) ?_
      refine lv_bipush (v := 6) hx hb dX0_checkpoint_38 (by decide) ?_
      refine lv_icmp_ge (tgt := 63) hx hb dX0_checkpoint_40 (by decide) (fun h1 => ?_) (fun h1 => ?_)
      · have hin : i = 6 := by
          rcases Nat.lt_or_ge i 6 with q | q
          · exact absurd h1 (nI_ge (b := 6) q (by decide))
          · omega
        subst hin
        refine lv_aload_n hx hb dX0_checkpoint_63 rfl (lv_at hl 1 rfl) ?_
        refine xr_V (n := 0) (As := []) (rest := []) ⟨hx, hb, hml, hown, ht⟩ (c_free l D A K n U U AG (xop OP 6) B TK hn hU hU) (xg_V kml_RX0_77 kim_yX0_free ksl_yX0_free kin_RX0 kco_yX0_free) ⟨rfl, rfl⟩ (by decide +kernel) ⟨Nat.le_of_ble_eq_true rfl, Nat.le_of_ble_eq_true rfl⟩ (xk_preV hP hK rfl rfl) rfl hl.1 rfl (Nat.le_of_ble_eq_true rfl) dX0_checkpoint_64 ⟨Nat.zero_le _, Nat.zero_le _⟩ (fun r1 e1 => ?_)
        subst e1
        exact W.iret (v := _) hx hb hr (fun t ht hW => ⟨⟨_, rfl, rfl⟩, by rw [ht]; exact hP, hS.F ht⟩) hS.2.2 dX0_checkpoint_67
      · have hin : i < 6 := by
          rcases Nat.lt_or_ge i 6 with q | q
          · exact q
          · exact absurd (nI_le (a := 6) q (by omega)) h1
        obtain ⟨b1, b2, b3⟩ := hB i hin
        refine lv_aload_n hx hb dX0_checkpoint_43 rfl (lv_at hl 1 rfl) ?_
        refine lv_aload_n hx hb dX0_checkpoint_44 rfl (lv_at hl 1 rfl) ?_
        refine lv_aload_n hx hb dX0_checkpoint_45 rfl (lv_at hl 1 rfl) ?_
        refine va_get (D := D) (ci := 0) (v := .ref (A 5)) (C := RX0) (T := TX0) (N := 7) hx hb ht xin_X0 hown hK hP 0 rfl rfl 5 (by decide) (ht _ kfl_RX0_27) (fun _ h9 => h9) rfl dX0_checkpoint_46 ?_
        refine lv_iload_n hx hb dX0_checkpoint_49 rfl (lv_at hl 0 rfl) ?_
        refine xa_ild hx hb hK hP 5 4 rfl rfl (v := nI (96 + 16 * OP i + NX i)) hin (by decide) (by show nI (B i) = _; rw [b1]) dX0_checkpoint_50 ?_
        refine xr_V (n := 1) (As := [.int (nI (96 + 16 * OP i + NX i))]) (rest := [.ref (A 0)]) ⟨hx, hb, hml, hown, ht⟩ (c_segmentOf l D A K n U U AG (xop OP i) B TK (nI (96 + 16 * OP i + NX i)) hn) (xg_V kml_RX0_64 kim_yX0_segmentOf ksl_yX0_segmentOf kin_RX0 kco_yX0_segmentOf) ⟨rfl, rfl⟩ (by decide +kernel) ⟨Nat.le_of_ble_eq_true rfl, Nat.le_of_ble_eq_true rfl⟩ (xk_preV hP hK rfl rfl) rfl hl.1 rfl (Nat.le_of_ble_eq_true rfl) dX0_checkpoint_51 ⟨Nat.zero_le _, Nat.zero_le _⟩ (fun r2 e2 => ?_)
        have e2 : r2 = nI (OP i) := by
          rcases e2 with ⟨j9, k9, hj9, hk9, e9, rfl⟩ | ⟨q9, -⟩
          · have e9 := (nI_eq (by omega) (by omega)).mp e9; congr 1; omega
          · exact absurd ⟨OP i, NX i, by omega, by omega, rfl⟩ q9
        subst e2
        refine xr_M (n := 1) (As := [.int (nI (OP i))]) (rest := []) ⟨hx, hb, hml, hown, ht⟩ (c_markTaken l D A K n U U AG (xop OP i) B TK hn (OP i) b2 H.size) (xg_V kml_RX0_74 kim_yX0_markTaken ksl_yX0_markTaken kin_RX0 kco_yX0_markTaken) ⟨rfl, rfl⟩ (by decide +kernel) ⟨Nat.le_of_ble_eq_true rfl, Nat.le_of_ble_eq_true rfl⟩ hP hK hD hS hA rfl rfl rfl rfl hl.1 rfl (Nat.le_of_ble_eq_true rfl) dX0_checkpoint_54 ⟨Nat.zero_le _, Nat.zero_le _⟩ (fun v9 H locs e9 hP hD hS => ?_)
        subst e9
        refine lv_iinc (v := nI (i + 1)) (lv' := [(1, .int (nI (i + 1))), (0, .ref (A 0))]) hx hb dX0_checkpoint_57 hl (k := 0) rfl (nI_1 i) (by decide) rfl (fun ls hl => ?_)
        refine lv_goto (tgt := 37) hx hb dX0_checkpoint_60 (by decide) ?_
        rw [xop_up] at hP hD
        exact ih (i + 1) H locs (by omega) (by omega) hP hD hS ls (lv_sub hl [0, 1] rfl)
  have loop : ∀ (f i : Nat) (TH' : Nat → Nat) (Z' : Nat → Bool) (H : Heap) (locs : List Loc), i ≤ n → n + 1 ≤ i + f → (∀ j, j < i → TH' j = U j ∧ Z' j = false) → (∀ j, i ≤ j → TH' j = TH j ∧ Z' j = Z j) → va_P D xcl (xc_W A K n U TH' AG Z' B TK) H → va_D (va_A (xc_W A K n U TH AG Z B TK) s.heap.size) (xc_W A K n U TH' AG Z' B TK) → va_S (va_A (xc_W A K n U TH AG Z B TK) s.heap.size) s.heap H locs → ∀ ls : Array Slot, lv_has ls 2 [(1, .int (nI i)), (0, .ref (A 0))] → W p l e (headSpec (xw yX0_checkpoint cX0_checkpoint 2 (some .int)) ({ frames := 3, cells := 0, slots := 0, locals := 64 })).room s m ([.ref (A 0)] : List Value).toArray below meth c H locs 0 0 (MQ below (xk_Q (fun v => v = some (.int (nI (xcnt (fun j => (xfr U U (xop OP 6) j).toNat) n)))) D (xc_W A K n U TH AG Z B TK) (xc_W A K n U U AG (xop OP 6) B TK)) ([.ref (A 0)] : List Value).toArray s 0 0 (va_A (xc_W A K n U TH AG Z B TK) s.heap.size)) (F0 m 2 ls []) := by
    intro f
    induction f with
    | zero => intro i TH' Z' H locs h1 h2; exact absurd h2 (by omega)
    | succ f ih =>
      intro i TH' Z' H locs hi hf hlo hhi hP hD hS ls hl
      refine lv_iload_n hx hb dX0_checkpoint_2 rfl (lv_at hl 0 rfl) ?_
      refine lv_aload_n hx hb dX0_checkpoint_3 rfl (lv_at hl 1 rfl) ?_
      refine va_get (D := D) (ci := 0) (v := .int (nI n)) (C := RX0) (T := TX0) (N := 7) hx hb ht xin_X0 hown hK hP 0 rfl rfl 0 (by decide) (ht _ kfl_RX0_9) (fun _ h9 => h9) rfl dX0_checkpoint_4 ?_
      refine lv_icmp_ge (tgt := 35) hx hb dX0_checkpoint_7 (by decide) (fun h1 => ?_) (fun h1 => ?_)
      · have hin : i = n := by
          rcases Nat.lt_or_ge i n with q | q
          · exact absurd h1 (nI_ge q (by omega))
          · omega
        subst hin
        have eT : TH' = U := by
          funext j
          rcases Nat.lt_or_ge j i with q | q
          · exact (hlo j q).1
          · rw [(hhi j q).1]; exact (hz j q).1
        have eZ : Z' = xop OP 0 := by
          funext j
          rcases Nat.lt_or_ge j i with q | q
          · exact (hlo j q).2
          · rw [(hhi j q).2]; exact (hz j q).2
        subst eT
        subst eZ
        refine lv_iconst (v := 0) hx hb dX0_checkpoint_35 (by decide) ?_
        refine lv_istore_n (lv' := [(1, .int 0), (0, .ref (A 0))]) hx hb dX0_checkpoint_36 rfl hl (by decide) rfl (fun ls hl => ?_)
        exact loop2 7 0 H locs (by omega) (by omega) hP hD hS ls (lv_sub hl [0, 1] rfl)
      · have hin : i < n := by
          rcases Nat.lt_or_ge i n with q | q
          · exact q
          · exact absurd (nI_le q (by omega)) h1
        refine lv_aload_n hx hb dX0_checkpoint_10 rfl (lv_at hl 1 rfl) ?_
        refine va_get (D := D) (ci := 0) (v := .ref (A 2)) (C := RX0) (T := TX0) (N := 7) hx hb ht xin_X0 hown hK hP 0 rfl rfl 2 (by decide) (ht _ kfl_RX0_17) (fun _ h9 => h9) rfl dX0_checkpoint_11 ?_
        refine lv_iload_n hx hb dX0_checkpoint_14 rfl (lv_at hl 0 rfl) ?_
        refine lv_aload_n hx hb dX0_checkpoint_15 rfl (lv_at hl 1 rfl) ?_
        refine va_get (D := D) (ci := 0) (v := .ref (A 1)) (C := RX0) (T := TX0) (N := 7) hx hb ht xin_X0 hown hK hP 0 rfl rfl 1 (by decide) (ht _ kfl_RX0_13) (fun _ h9 => h9) rfl dX0_checkpoint_16 ?_
        refine lv_iload_n hx hb dX0_checkpoint_19 rfl (lv_at hl 0 rfl) ?_
        refine xa_ild hx hb hK hP 1 0 rfl rfl (v := nI (U i)) hin (by omega) rfl dX0_checkpoint_20 ?_
        refine xa_ist hx hb hK hP hD hS 2 1 rfl rfl hin (by omega) (xu_n TH' i _) dX0_checkpoint_21 (fun H locs hP hD hS => ?_)
        have hP : va_P D xcl (xc_W A K n U (va_up TH' i (U i)) AG Z' B TK) H := hP
        have hD : va_D (va_A (xc_W A K n U TH AG Z B TK) s.heap.size) (xc_W A K n U (va_up TH' i (U i)) AG Z' B TK) := hD
        refine lv_aload_n hx hb dX0_checkpoint_22 rfl (lv_at hl 1 rfl) ?_
        refine va_get (D := D) (ci := 0) (v := .ref (A 4)) (C := RX0) (T := TX0) (N := 7) hx hb ht xin_X0 hown hK hP 0 rfl rfl 4 (by decide) (ht _ kfl_RX0_23) (fun _ h9 => h9) rfl dX0_checkpoint_23 ?_
        refine lv_iload_n hx hb dX0_checkpoint_26 rfl (lv_at hl 0 rfl) ?_
        refine lv_iconst (v := 0) hx hb dX0_checkpoint_27 (by decide) ?_
        refine xa_zst hx hb hK hP hD hS 4 3 rfl rfl hin (by omega) (xu_z Z' i false) dX0_checkpoint_28 (fun H locs hP hD hS => ?_)
        have hP : va_P D xcl (xc_W A K n U (va_up TH' i (U i)) AG (va_up Z' i false) B TK) H := hP
        have hD : va_D (va_A (xc_W A K n U TH AG Z B TK) s.heap.size) (xc_W A K n U (va_up TH' i (U i)) AG (va_up Z' i false) B TK) := hD
        refine lv_iinc (v := nI (i + 1)) (lv' := [(1, .int (nI (i + 1))), (0, .ref (A 0))]) hx hb dX0_checkpoint_29 hl (k := 0) rfl (nI_1 i) (by decide) rfl (fun ls hl => ?_)
        refine lv_goto (tgt := 2) hx hb dX0_checkpoint_32 (by decide) ?_
        refine ih (i + 1) (va_up TH' i (U i)) (va_up Z' i false) H locs (by omega) (by omega) ?_ ?_ hP hD hS ls (lv_sub hl [0, 1] rfl)
        · intro j hj
          by_cases e : j = i
          · subst e; exact ⟨va_up_self _ _ _, va_up_self _ _ _⟩
          · rw [va_up_ne _ _ e, va_up_ne _ _ e]; exact hlo j (by omega)
        · intro j hj
          rw [va_up_ne _ _ (by omega), va_up_ne _ _ (by omega)]; exact hhi j (by omega)
  refine lv_iconst (v := 0) hx hb dX0_checkpoint_0 (by decide) ?_
  refine lv_istore_n (lv' := [(1, .int 0), (0, .ref (A 0))]) hx hb dX0_checkpoint_1 rfl hl (by decide) rfl (fun ls hl => ?_)
  exact loop (n + 1) 0 TH Z s.heap [] (by omega) (by omega) (fun j hj => absurd hj (by omega)) (fun j _ => ⟨rfl, rfl⟩) hP hD hS ls (lv_sub hl [0, 1] rfl)
