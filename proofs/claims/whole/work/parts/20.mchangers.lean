def xth (a b : Bool) : Nat := if a then 1 else if b then 2 else 0
set_option maxHeartbeats 4000000 in
set_option maxRecDepth 100000 in
/-- throwing -/
theorem m_throwing (l : Launch) (D : va_G) (A : Nat → Nat) (K : Nat → ClassId) (th n : Nat) (V TV TO : Nat → Bool) (AG OP NX : Nat → Nat) (TK : Nat) (a b : Bool) (sz : Nat) : Met l yX1_throwing (xw yX1_throwing cX1_throwing 3 (some .boolean)) ({ frames := 0, cells := 0, slots := 0, locals := 0 }) (xk_M [.ref (A 0), .int (xb a), .int (xb b)] D (xm_T K) (xm_W A K th n V TV TO AG OP NX TK) sz) (xk_Q (fun v => v = some (.int (xb (a || b)))) D (xm_W A K th n V TV TO AG OP NX TK) (xm_W A K (xth a b) n V TV TO AG OP NX TK)) 0 0 (va_A (xm_W A K th n V TV TO AG OP NX TK) sz) := by
  refine Met.ofW (cc := cX1_throwing) (maxL := 3) (ret := (some .boolean)) (by decide) rfl ?_
  intro p e s m args below meth c s₁ B0 hml hv
  obtain ⟨rfl, hsz, hP, hK, hD0⟩ := hv
  have hx := B0.exec
  have hb := B0.bytes
  have hr := B0.returns
  have ht : ∀ w ∈ xT, w.before _ s = true := fun w h => atoms_spec (ws := xw yX1_throwing cX1_throwing 3 (some .boolean)) B0.pre w (List.mem_cons_of_mem _ h)
  have hown : s.vm.findClass RX1 = some m.cls := findClass_of_methodNamed B0.named
  have hlocks := B0.notSynchronized
  have hl := lv_entry ([.ref (A 0), .int (xb a), .int (xb b)]) (n := 3) (Nat.le_of_ble_eq_true rfl)
  rw [lg_entry_eq]
  generalize (lg_sl ([.ref (A 0), .int (xb a), .int (xb b)]) ++ List.replicate (3 - (lg_sl ([.ref (A 0), .int (xb a), .int (xb b)])).length) Slot.unset).toArray = ls at hl ⊢
  have hl : lv_has ls 3 [(0, .ref (A 0)), (1, .int (xb a)), (2, .int (xb b))] := hl
  subst hsz
  have hD := hD0.self (sz := s.heap.size)
  have hA : ∀ q : Nat, s.heap.size ≤ q → va_A (xm_W A K th n V TV TO AG OP NX TK) s.heap.size q := fun q h => Or.inr h
  have hS : va_S (va_A (xm_W A K th n V TV TO AG OP NX TK) s.heap.size) s.heap s.heap [] := va_S.rf
  cases a
  · refine lv_aload_n hx hb dX1_throwing_0 rfl (lv_at hl 0 rfl) ?_
    refine lv_iload_n hx hb dX1_throwing_1 rfl (lv_at hl 1 rfl) ?_
    refine lv_if_eq (tgt := 9) hx hb dX1_throwing_2 (by decide) (fun _ => ?_) (fun h => by first | exact absurd h (by decide) | exact absurd (by decide) h)
    cases b
    · refine lv_iload_n hx hb dX1_throwing_9 rfl (lv_at hl 2 rfl) ?_
      refine lv_if_eq (tgt := 17) hx hb dX1_throwing_10 (by decide) (fun _ => ?_) (fun h => by first | exact absurd h (by decide) | exact absurd (by decide) h)
      refine lv_iconst (v := 0) hx hb dX1_throwing_17 (by decide) ?_
      refine xa_top (y := nI (xth false false)) rfl ?_
      refine va_put (D := D) (ci := 1) (v := .int (nI (xth false false))) (ty := .int) (C := RX1) (T := TX1) (N := 9) hx hb ht xin_X1 tyX1 tyX1_ok nmX1 hown hK hP hD hS 0 rfl rfl 0 (by decide) (ht _ kfl_RX1_33) (fun _ h9 => h9) rfl (by decide +kernel) rfl rfl (Nat.le_of_ble_eq_true rfl) dX1_throwing_18 (fun H locs hP hD hS => ?_)
      have hP : va_P D xcl (xm_W A K (xth false false) n V TV TO AG OP NX TK) H := hP
      have hD : va_D (va_A (xm_W A K th n V TV TO AG OP NX TK) s.heap.size) (xm_W A K (xth false false) n V TV TO AG OP NX TK) := hD
      refine lv_aload_n hx hb dX1_throwing_21 rfl (lv_at hl 0 rfl) ?_
      refine va_get (D := D) (ci := 1) (v := .int (nI (xth false false))) (C := RX1) (T := TX1) (N := 9) hx hb ht xin_X1 hown hK hP 0 rfl rfl 0 (by decide) (ht _ kfl_RX1_33) (fun _ h9 => h9) rfl dX1_throwing_22 ?_
      refine lv_if_le (tgt := 32) hx hb dX1_throwing_25 (by decide) (fun _ => ?_) (fun h => by first | exact absurd h (by decide) | exact absurd (by decide) h)
      refine lv_iconst (v := 0) hx hb dX1_throwing_32 (by decide) ?_
      exact W.zret (v := 0) (ty := .boolean) hx hb hr (by decide) (fun t ht hW => ⟨⟨_, rfl, rfl⟩, by rw [ht]; exact hP, hS.F ht⟩) hS.2.2 dX1_throwing_33
    · refine lv_iload_n hx hb dX1_throwing_9 rfl (lv_at hl 2 rfl) ?_
      refine lv_if_eq (tgt := 17) hx hb dX1_throwing_10 (by decide) (fun h => by first | exact absurd h (by decide) | exact absurd (by decide) h) (fun _ => ?_)
      refine lv_iconst (v := 2) hx hb dX1_throwing_13 (by decide) ?_
      refine lv_goto (tgt := 18) hx hb dX1_throwing_14 (by decide) ?_
      refine xa_top (y := nI (xth false true)) rfl ?_
      refine va_put (D := D) (ci := 1) (v := .int (nI (xth false true))) (ty := .int) (C := RX1) (T := TX1) (N := 9) hx hb ht xin_X1 tyX1 tyX1_ok nmX1 hown hK hP hD hS 0 rfl rfl 0 (by decide) (ht _ kfl_RX1_33) (fun _ h9 => h9) rfl (by decide +kernel) rfl rfl (Nat.le_of_ble_eq_true rfl) dX1_throwing_18 (fun H locs hP hD hS => ?_)
      have hP : va_P D xcl (xm_W A K (xth false true) n V TV TO AG OP NX TK) H := hP
      have hD : va_D (va_A (xm_W A K th n V TV TO AG OP NX TK) s.heap.size) (xm_W A K (xth false true) n V TV TO AG OP NX TK) := hD
      refine lv_aload_n hx hb dX1_throwing_21 rfl (lv_at hl 0 rfl) ?_
      refine va_get (D := D) (ci := 1) (v := .int (nI (xth false true))) (C := RX1) (T := TX1) (N := 9) hx hb ht xin_X1 hown hK hP 0 rfl rfl 0 (by decide) (ht _ kfl_RX1_33) (fun _ h9 => h9) rfl dX1_throwing_22 ?_
      refine lv_if_le (tgt := 32) hx hb dX1_throwing_25 (by decide) (fun h => by first | exact absurd h (by decide) | exact absurd (by decide) h) (fun _ => ?_)
      refine lv_iconst (v := 1) hx hb dX1_throwing_28 (by decide) ?_
      refine lv_goto (tgt := 33) hx hb dX1_throwing_29 (by decide) ?_
      exact W.zret (v := 1) (ty := .boolean) hx hb hr (by decide) (fun t ht hW => ⟨⟨_, rfl, rfl⟩, by rw [ht]; exact hP, hS.F ht⟩) hS.2.2 dX1_throwing_33
  · refine lv_aload_n hx hb dX1_throwing_0 rfl (lv_at hl 0 rfl) ?_
    refine lv_iload_n hx hb dX1_throwing_1 rfl (lv_at hl 1 rfl) ?_
    refine lv_if_eq (tgt := 9) hx hb dX1_throwing_2 (by decide) (fun h => by first | exact absurd h (by decide) | exact absurd (by decide) h) (fun _ => ?_)
    refine lv_iconst (v := 1) hx hb dX1_throwing_5 (by decide) ?_
    refine lv_goto (tgt := 18) hx hb dX1_throwing_6 (by decide) ?_
    refine xa_top (y := nI (xth true b)) rfl ?_
    refine va_put (D := D) (ci := 1) (v := .int (nI (xth true b))) (ty := .int) (C := RX1) (T := TX1) (N := 9) hx hb ht xin_X1 tyX1 tyX1_ok nmX1 hown hK hP hD hS 0 rfl rfl 0 (by decide) (ht _ kfl_RX1_33) (fun _ h9 => h9) rfl (by decide +kernel) rfl rfl (Nat.le_of_ble_eq_true rfl) dX1_throwing_18 (fun H locs hP hD hS => ?_)
    have hP : va_P D xcl (xm_W A K (xth true b) n V TV TO AG OP NX TK) H := hP
    have hD : va_D (va_A (xm_W A K th n V TV TO AG OP NX TK) s.heap.size) (xm_W A K (xth true b) n V TV TO AG OP NX TK) := hD
    refine lv_aload_n hx hb dX1_throwing_21 rfl (lv_at hl 0 rfl) ?_
    refine va_get (D := D) (ci := 1) (v := .int (nI (xth true b))) (C := RX1) (T := TX1) (N := 9) hx hb ht xin_X1 hown hK hP 0 rfl rfl 0 (by decide) (ht _ kfl_RX1_33) (fun _ h9 => h9) rfl dX1_throwing_22 ?_
    refine lv_if_le (tgt := 32) hx hb dX1_throwing_25 (by decide) (fun h => absurd h (show ¬ nI 1 ≤ 0 by decide)) (fun _ => ?_)
    refine lv_iconst (v := 1) hx hb dX1_throwing_28 (by decide) ?_
    refine lv_goto (tgt := 33) hx hb dX1_throwing_29 (by decide) ?_
    exact W.zret (v := 1) (ty := .boolean) hx hb hr (by decide) (fun t ht hW => ⟨⟨_, rfl, by cases b <;> rfl⟩, by rw [ht]; exact hP, hS.F ht⟩) hS.2.2 dX1_throwing_33

set_option maxHeartbeats 4000000 in
set_option maxRecDepth 100000 in
/-- next: no such log -/
theorem m_next_bad (l : Launch) (D : va_G) (A : Nat → Nat) (K : Nat → ClassId) (th n : Nat) (V TV TO : Nat → Bool) (AG OP NX : Nat → Nat) (TK : Nat) (x : Int32) (hbad : ¬ ∃ j : Nat, j < 6 ∧ x = nI j) (sz : Nat) : Met l yX1_next (xw yX1_next cX1_next 3 (some .int)) ({ frames := 1, cells := 0, slots := 0, locals := 22 }) (xk_M [.ref (A 0), .int x] D (xm_T K) (xm_W A K th n V TV TO AG OP NX TK) sz) (xk_Q (fun v => ∃ r : Int32, v = some (.int r)) D (xm_W A K th n V TV TO AG OP NX TK) (xm_W A K 1 n V TV TO AG OP NX TK)) 0 0 (va_A (xm_W A K th n V TV TO AG OP NX TK) sz) := by
  refine Met.ofW (cc := cX1_next) (maxL := 3) (ret := (some .int)) (by decide) rfl ?_
  intro p e s m args below meth c s₁ B0 hml hv
  obtain ⟨rfl, hsz, hP, hK, hD0⟩ := hv
  have hx := B0.exec
  have hb := B0.bytes
  have hr := B0.returns
  have ht : ∀ w ∈ xT, w.before _ s = true := fun w h => atoms_spec (ws := xw yX1_next cX1_next 3 (some .int)) B0.pre w (List.mem_cons_of_mem _ h)
  have hown : s.vm.findClass RX1 = some m.cls := findClass_of_methodNamed B0.named
  have hlocks := B0.notSynchronized
  have hl := lv_entry ([.ref (A 0), .int x]) (n := 3) (Nat.le_of_ble_eq_true rfl)
  rw [lg_entry_eq]
  generalize (lg_sl ([.ref (A 0), .int x]) ++ List.replicate (3 - (lg_sl ([.ref (A 0), .int x])).length) Slot.unset).toArray = ls at hl ⊢
  have hl : lv_has ls 3 [(0, .ref (A 0)), (1, .int x)] := hl
  subst hsz
  have hD := hD0.self (sz := s.heap.size)
  have hA : ∀ q : Nat, s.heap.size ≤ q → va_A (xm_W A K th n V TV TO AG OP NX TK) s.heap.size q := fun q h => Or.inr h
  have hS : va_S (va_A (xm_W A K th n V TV TO AG OP NX TK) s.heap.size) s.heap s.heap [] := va_S.rf
  have tail : ∀ ls : Array Slot, lv_has ls 3 [(0, .ref (A 0)), (1, .int x)] → W p l e (headSpec (xw yX1_next cX1_next 3 (some .int)) ({ frames := 1, cells := 0, slots := 0, locals := 22 })).room s m ([.ref (A 0), .int x] : List Value).toArray below meth c s.heap [] 0 0 (MQ below (xk_Q (fun v => ∃ r : Int32, v = some (.int r)) D (xm_W A K th n V TV TO AG OP NX TK) (xm_W A K 1 n V TV TO AG OP NX TK)) ([.ref (A 0), .int x] : List Value).toArray s 0 0 (va_A (xm_W A K th n V TV TO AG OP NX TK) s.heap.size)) (F0 m 14 ls [.int (xb true)]) := by
    intro ls hl
    refine lv_istore_n (lv' := [(2, .int (xb true)), (0, .ref (A 0)), (1, .int x)]) hx hb dX1_next_14 rfl hl (by decide) rfl (fun ls hl => ?_)
    refine lv_aload_n hx hb dX1_next_15 rfl (lv_at hl 1 rfl) ?_
    refine lv_iload_n hx hb dX1_next_16 rfl (lv_at hl 0 rfl) ?_
    refine lv_iconst (v := 0) hx hb dX1_next_17 (by decide) ?_
    refine xr_M (n := 2) (As := [.int (xb true), .int (xb false)]) (rest := []) ⟨hx, hb, hml, hown, ht⟩ (m_throwing l D A K th n V TV TO AG OP NX TK true false _) (xg_V kml_RX1_47 kim_yX1_throwing ksl_yX1_throwing kin_RX1 kco_yX1_throwing) ⟨rfl, rfl⟩ (by decide +kernel) ⟨Nat.le_of_ble_eq_true rfl, Nat.le_of_ble_eq_true rfl⟩ hP hK hD hS hA rfl rfl rfl rfl hl.1 rfl (Nat.le_of_ble_eq_true rfl) dX1_next_18 ⟨Nat.zero_le _, Nat.zero_le _⟩ (fun v9 H locs e9 hP hD hS => ?_)
    subst e9
    refine lv_if_eq (tgt := 26) hx hb dX1_next_21 (by decide) (fun h => by first | exact absurd h (by decide) | exact absurd (by decide) h) (fun _ => ?_)
    refine lv_iconst (v := 0) hx hb dX1_next_24 (by decide) ?_
    exact W.iret (v := 0) hx hb hr (fun t ht hW => ⟨⟨_, rfl, ⟨_, rfl⟩⟩, by rw [ht]; exact hP, hS.F ht⟩) hS.2.2 dX1_next_25
  refine lv_iload_n hx hb dX1_next_0 rfl (lv_at hl 1 rfl) ?_
  refine lv_if_lt (tgt := 9) hx hb dX1_next_1 (by decide) (fun h1 => ?_) (fun h1 => ?_)
  · refine lv_iconst (v := 1) hx hb dX1_next_9 (by decide) ?_
    refine lv_goto (tgt := 14) hx hb dX1_next_10 (by decide) ?_
    exact tail ls (lv_sub hl [0, 1] rfl)
  · refine lv_iload_n hx hb dX1_next_4 rfl (lv_at hl 1 rfl) ?_
    refine lv_iconst (v := 5) hx hb dX1_next_5 (by decide) ?_
    refine lv_icmp_le (tgt := 13) hx hb dX1_next_6 (by decide) (fun h2 => ?_) (fun h2 => ?_)
    · exact absurd (by
        rcases pk_ix x (n := 6) (by decide) with q | q | q
        · exact absurd q h1
        · exact absurd (Int32.le_trans q h2) (by decide)
        · exact q) hbad
    · refine lv_iconst (v := 1) hx hb dX1_next_9 (by decide) ?_
      refine lv_goto (tgt := 14) hx hb dX1_next_10 (by decide) ?_
      exact tail ls (lv_sub hl [0, 1] rfl)

set_option maxHeartbeats 4000000 in
set_option maxRecDepth 100000 in
/-- next -/
theorem m_next_ok (l : Launch) (D : va_G) (A : Nat → Nat) (K : Nat → ClassId) (th n : Nat) (V TV TO : Nat → Bool) (AG OP NX : Nat → Nat) (TK : Nat) (q : Nat) (hq : q < 6) (sz : Nat) : Met l yX1_next (xw yX1_next cX1_next 3 (some .int)) ({ frames := 1, cells := 0, slots := 0, locals := 22 }) (xk_M [.ref (A 0), .int (nI q)] D (xm_T K) (xm_W A K th n V TV TO AG OP NX TK) sz) (xk_Q (fun v => v = some (.int (nI (96 + 16 * OP q + NX q)))) D (xm_W A K th n V TV TO AG OP NX TK) (xm_W A K 0 n V TV TO AG OP NX TK)) 0 0 (va_A (xm_W A K th n V TV TO AG OP NX TK) sz) := by
  refine Met.ofW (cc := cX1_next) (maxL := 3) (ret := (some .int)) (by decide) rfl ?_
  intro p e s m args below meth c s₁ B0 hml hv
  obtain ⟨rfl, hsz, hP, hK, hD0⟩ := hv
  have hx := B0.exec
  have hb := B0.bytes
  have hr := B0.returns
  have ht : ∀ w ∈ xT, w.before _ s = true := fun w h => atoms_spec (ws := xw yX1_next cX1_next 3 (some .int)) B0.pre w (List.mem_cons_of_mem _ h)
  have hown : s.vm.findClass RX1 = some m.cls := findClass_of_methodNamed B0.named
  have hlocks := B0.notSynchronized
  have hl := lv_entry ([.ref (A 0), .int (nI q)]) (n := 3) (Nat.le_of_ble_eq_true rfl)
  rw [lg_entry_eq]
  generalize (lg_sl ([.ref (A 0), .int (nI q)]) ++ List.replicate (3 - (lg_sl ([.ref (A 0), .int (nI q)])).length) Slot.unset).toArray = ls at hl ⊢
  have hl : lv_has ls 3 [(0, .ref (A 0)), (1, .int (nI q))] := hl
  subst hsz
  have hD := hD0.self (sz := s.heap.size)
  have hA : ∀ q : Nat, s.heap.size ≤ q → va_A (xm_W A K th n V TV TO AG OP NX TK) s.heap.size q := fun q h => Or.inr h
  have hS : va_S (va_A (xm_W A K th n V TV TO AG OP NX TK) s.heap.size) s.heap s.heap [] := va_S.rf
  refine lv_iload_n hx hb dX1_next_0 rfl (lv_at hl 1 rfl) ?_
  refine lv_if_lt (tgt := 9) hx hb dX1_next_1 (by decide) (fun h => absurd h (nI_pos (by omega))) (fun _ => ?_)
  refine lv_iload_n hx hb dX1_next_4 rfl (lv_at hl 1 rfl) ?_
  refine lv_iconst (v := 5) hx hb dX1_next_5 (by decide) ?_
  refine lv_icmp_le (tgt := 13) hx hb dX1_next_6 (by decide) (fun _ => ?_) (fun h => absurd (nI_le (b := 5) (by omega) (by decide)) h)
  refine lv_iconst (v := 0) hx hb dX1_next_13 (by decide) ?_
  refine xa_top (y := xb false) rfl ?_
  refine lv_istore_n (lv' := [(2, .int (xb false)), (0, .ref (A 0)), (1, .int (nI q))]) hx hb dX1_next_14 rfl hl (by decide) rfl (fun ls hl => ?_)
  refine lv_aload_n hx hb dX1_next_15 rfl (lv_at hl 1 rfl) ?_
  refine lv_iload_n hx hb dX1_next_16 rfl (lv_at hl 0 rfl) ?_
  refine lv_iconst (v := 0) hx hb dX1_next_17 (by decide) ?_
  refine xr_M (n := 2) (As := [.int (xb false), .int (xb false)]) (rest := []) ⟨hx, hb, hml, hown, ht⟩ (m_throwing l D A K th n V TV TO AG OP NX TK false false _) (xg_V kml_RX1_47 kim_yX1_throwing ksl_yX1_throwing kin_RX1 kco_yX1_throwing) ⟨rfl, rfl⟩ (by decide +kernel) ⟨Nat.le_of_ble_eq_true rfl, Nat.le_of_ble_eq_true rfl⟩ hP hK hD hS hA rfl rfl rfl rfl hl.1 rfl (Nat.le_of_ble_eq_true rfl) dX1_next_18 ⟨Nat.zero_le _, Nat.zero_le _⟩ (fun v9 H locs e9 hP hD hS => ?_)
  subst e9
  refine lv_if_eq (tgt := 26) hx hb dX1_next_21 (by decide) (fun _ => ?_) (fun h => by first | exact absurd h (by decide) | exact absurd (by decide) h)
  refine lv_bipush (v := 96) hx hb dX1_next_26 (by decide) ?_
  refine lv_bipush (v := 16) hx hb dX1_next_28 (by decide) ?_
  refine lv_aload_n hx hb dX1_next_30 rfl (lv_at hl 1 rfl) ?_
  refine va_get (D := D) (ci := 1) (v := .ref (A 5)) (C := RX1) (T := TX1) (N := 9) hx hb ht xin_X1 hown hK hP 0 rfl rfl 6 (by decide) (ht _ kfl_RX1_23) (fun _ h9 => h9) rfl dX1_next_31 ?_
  refine lv_iload_n hx hb dX1_next_34 rfl (lv_at hl 2 rfl) ?_
  refine xa_ild hx hb hK hP 5 4 rfl rfl (v := nI (OP q)) hq (by decide) rfl dX1_next_35 ?_
  refine lv_imul hx hb dX1_next_36 ?_
  refine lv_iadd hx hb dX1_next_37 ?_
  refine lv_aload_n hx hb dX1_next_38 rfl (lv_at hl 1 rfl) ?_
  refine va_get (D := D) (ci := 1) (v := .ref (A 6)) (C := RX1) (T := TX1) (N := 9) hx hb ht xin_X1 hown hK hP 0 rfl rfl 7 (by decide) (ht _ kfl_RX1_26) (fun _ h9 => h9) rfl dX1_next_39 ?_
  refine lv_iload_n hx hb dX1_next_42 rfl (lv_at hl 2 rfl) ?_
  refine xa_ild hx hb hK hP 6 5 rfl rfl (v := nI (NX q)) hq (by decide) rfl dX1_next_43 ?_
  refine lv_iadd hx hb dX1_next_44 ?_
  refine xa_top (y := nI (96 + 16 * OP q + NX q)) (by rw [show (16 : Int32) = nI 16 from rfl, xp_96, pk_mul, nI_add, nI_add]) ?_
  exact W.iret (v := nI (96 + 16 * OP q + NX q)) hx hb hr (fun t ht hW => ⟨⟨_, rfl, rfl⟩, by rw [ht]; exact hP, hS.F ht⟩) hS.2.2 dX1_next_45

set_option maxHeartbeats 4000000 in
set_option maxRecDepth 100000 in
/-- isUsed: no such block -/
theorem m_isUsed_bad (l : Launch) (D : va_G) (A : Nat → Nat) (K : Nat → ClassId) (th n : Nat) (V TV TO : Nat → Bool) (AG OP NX : Nat → Nat) (TK : Nat) (hn : n ≤ 128) (x : Int32) (hbad : ¬ ∃ j k : Nat, j < n ∧ k < 16 ∧ x = nI (96 + 16 * j + k)) (sz : Nat) : Met l yX1_isUsed (xw yX1_isUsed cX1_isUsed 2 (some .boolean)) ({ frames := 1, cells := 0, slots := 0, locals := 22 }) (xk_M [.ref (A 0), .int x] D (xm_T K) (xm_W A K th n V TV TO AG OP NX TK) sz) (xk_Q (fun v => ∃ r : Int32, v = some (.int r)) D (xm_W A K th n V TV TO AG OP NX TK) (xm_W A K 1 n V TV TO AG OP NX TK)) 0 0 (va_A (xm_W A K th n V TV TO AG OP NX TK) sz) := by
  refine Met.ofW (cc := cX1_isUsed) (maxL := 2) (ret := (some .boolean)) (by decide) rfl ?_
  intro p e s m args below meth c s₁ B0 hml hv
  obtain ⟨rfl, hsz, hP, hK, hD0⟩ := hv
  have hx := B0.exec
  have hb := B0.bytes
  have hr := B0.returns
  have ht : ∀ w ∈ xT, w.before _ s = true := fun w h => atoms_spec (ws := xw yX1_isUsed cX1_isUsed 2 (some .boolean)) B0.pre w (List.mem_cons_of_mem _ h)
  have hown : s.vm.findClass RX1 = some m.cls := findClass_of_methodNamed B0.named
  have hlocks := B0.notSynchronized
  have hl := lv_entry ([.ref (A 0), .int x]) (n := 2) (Nat.le_of_ble_eq_true rfl)
  rw [lg_entry_eq]
  generalize (lg_sl ([.ref (A 0), .int x]) ++ List.replicate (2 - (lg_sl ([.ref (A 0), .int x])).length) Slot.unset).toArray = ls at hl ⊢
  have hl : lv_has ls 2 [(0, .ref (A 0)), (1, .int x)] := hl
  subst hsz
  have hD := hD0.self (sz := s.heap.size)
  have hA : ∀ q : Nat, s.heap.size ≤ q → va_A (xm_W A K th n V TV TO AG OP NX TK) s.heap.size q := fun q h => Or.inr h
  have hS : va_S (va_A (xm_W A K th n V TV TO AG OP NX TK) s.heap.size) s.heap s.heap [] := va_S.rf
  refine lv_aload_n hx hb dX1_isUsed_0 rfl (lv_at hl 0 rfl) ?_
  refine lv_aload_n hx hb dX1_isUsed_1 rfl (lv_at hl 0 rfl) ?_
  refine lv_iload_n hx hb dX1_isUsed_2 rfl (lv_at hl 1 rfl) ?_
  refine xr_V (n := 1) (As := [.int x]) (rest := [.ref (A 0)]) ⟨hx, hb, hml, hown, ht⟩ (m_isNo l D A K th n V TV TO AG OP NX TK (x) hn) (xg_V kml_RX1_54 kim_yX1_isNo ksl_yX1_isNo kin_RX1 kco_yX1_isNo) ⟨rfl, rfl⟩ (by decide +kernel) ⟨Nat.le_of_ble_eq_true rfl, Nat.le_of_ble_eq_true rfl⟩ (xk_preV hP hK rfl rfl) rfl hl.1 rfl (Nat.le_of_ble_eq_true rfl) dX1_isUsed_3 ⟨Nat.le_of_ble_eq_true rfl, Nat.le_of_ble_eq_true rfl⟩ (fun r1 e1 => ?_)
  have e1 : r1 = xb true := e1.elim (fun z => absurd z.1 hbad) (fun z => z.2)
  subst e1
  refine lv_iconst (v := 0) hx hb dX1_isUsed_6 (by decide) ?_
  refine xr_M (n := 2) (As := [.int (xb true), .int (xb false)]) (rest := []) ⟨hx, hb, hml, hown, ht⟩ (m_throwing l D A K th n V TV TO AG OP NX TK true false _) (xg_V kml_RX1_47 kim_yX1_throwing ksl_yX1_throwing kin_RX1 kco_yX1_throwing) ⟨rfl, rfl⟩ (by decide +kernel) ⟨Nat.le_of_ble_eq_true rfl, Nat.le_of_ble_eq_true rfl⟩ hP hK hD hS hA rfl rfl rfl rfl hl.1 rfl (Nat.le_of_ble_eq_true rfl) dX1_isUsed_7 ⟨Nat.zero_le _, Nat.zero_le _⟩ (fun v9 H locs e9 hP hD hS => ?_)
  subst e9
  refine lv_if_eq (tgt := 15) hx hb dX1_isUsed_10 (by decide) (fun h => by first | exact absurd h (by decide) | exact absurd (by decide) h) (fun _ => ?_)
  refine lv_iconst (v := 0) hx hb dX1_isUsed_13 (by decide) ?_
  exact W.zret (v := 0) (ty := .boolean) hx hb hr (by decide) (fun t ht hW => ⟨⟨_, rfl, ⟨_, rfl⟩⟩, by rw [ht]; exact hP, hS.F ht⟩) hS.2.2 dX1_isUsed_14

set_option maxHeartbeats 4000000 in
set_option maxRecDepth 100000 in
/-- isUsed -/
theorem m_isUsed_ok (l : Launch) (D : va_G) (A : Nat → Nat) (K : Nat → ClassId) (th n : Nat) (V TV TO : Nat → Bool) (AG OP NX : Nat → Nat) (TK : Nat) (hn : n ≤ 128) (j k : Nat) (hj : j < n) (hk : k < 16) (sz : Nat) : Met l yX1_isUsed (xw yX1_isUsed cX1_isUsed 2 (some .boolean)) ({ frames := 1, cells := 0, slots := 0, locals := 22 }) (xk_M [.ref (A 0), .int (nI (96 + 16 * j + k))] D (xm_T K) (xm_W A K th n V TV TO AG OP NX TK) sz) (xk_Q (fun v => v = some (.int (xb (V (16 * j + k))))) D (xm_W A K th n V TV TO AG OP NX TK) (xm_W A K 0 n V TV TO AG OP NX TK)) 0 0 (va_A (xm_W A K th n V TV TO AG OP NX TK) sz) := by
  refine Met.ofW (cc := cX1_isUsed) (maxL := 2) (ret := (some .boolean)) (by decide) rfl ?_
  intro p e s m args below meth c s₁ B0 hml hv
  obtain ⟨rfl, hsz, hP, hK, hD0⟩ := hv
  have hx := B0.exec
  have hb := B0.bytes
  have hr := B0.returns
  have ht : ∀ w ∈ xT, w.before _ s = true := fun w h => atoms_spec (ws := xw yX1_isUsed cX1_isUsed 2 (some .boolean)) B0.pre w (List.mem_cons_of_mem _ h)
  have hown : s.vm.findClass RX1 = some m.cls := findClass_of_methodNamed B0.named
  have hlocks := B0.notSynchronized
  have hl := lv_entry ([.ref (A 0), .int (nI (96 + 16 * j + k))]) (n := 2) (Nat.le_of_ble_eq_true rfl)
  rw [lg_entry_eq]
  generalize (lg_sl ([.ref (A 0), .int (nI (96 + 16 * j + k))]) ++ List.replicate (2 - (lg_sl ([.ref (A 0), .int (nI (96 + 16 * j + k))])).length) Slot.unset).toArray = ls at hl ⊢
  have hl : lv_has ls 2 [(0, .ref (A 0)), (1, .int (nI (96 + 16 * j + k)))] := hl
  subst hsz
  have hD := hD0.self (sz := s.heap.size)
  have hA : ∀ q : Nat, s.heap.size ≤ q → va_A (xm_W A K th n V TV TO AG OP NX TK) s.heap.size q := fun q h => Or.inr h
  have hS : va_S (va_A (xm_W A K th n V TV TO AG OP NX TK) s.heap.size) s.heap s.heap [] := va_S.rf
  refine lv_aload_n hx hb dX1_isUsed_0 rfl (lv_at hl 0 rfl) ?_
  refine lv_aload_n hx hb dX1_isUsed_1 rfl (lv_at hl 0 rfl) ?_
  refine lv_iload_n hx hb dX1_isUsed_2 rfl (lv_at hl 1 rfl) ?_
  refine xr_V (n := 1) (As := [.int (nI (96 + 16 * j + k))]) (rest := [.ref (A 0)]) ⟨hx, hb, hml, hown, ht⟩ (m_isNo l D A K th n V TV TO AG OP NX TK (nI (96 + 16 * j + k)) hn) (xg_V kml_RX1_54 kim_yX1_isNo ksl_yX1_isNo kin_RX1 kco_yX1_isNo) ⟨rfl, rfl⟩ (by decide +kernel) ⟨Nat.le_of_ble_eq_true rfl, Nat.le_of_ble_eq_true rfl⟩ (xk_preV hP hK rfl rfl) rfl hl.1 rfl (Nat.le_of_ble_eq_true rfl) dX1_isUsed_3 ⟨Nat.le_of_ble_eq_true rfl, Nat.le_of_ble_eq_true rfl⟩ (fun r1 e1 => ?_)
  have e1 : r1 = xb false := e1.elim (fun z => z.2) (fun z => absurd ⟨j, k, hj, hk, rfl⟩ z.1)
  subst e1
  refine lv_iconst (v := 0) hx hb dX1_isUsed_6 (by decide) ?_
  refine xr_M (n := 2) (As := [.int (xb false), .int (xb false)]) (rest := []) ⟨hx, hb, hml, hown, ht⟩ (m_throwing l D A K th n V TV TO AG OP NX TK false false _) (xg_V kml_RX1_47 kim_yX1_throwing ksl_yX1_throwing kin_RX1 kco_yX1_throwing) ⟨rfl, rfl⟩ (by decide +kernel) ⟨Nat.le_of_ble_eq_true rfl, Nat.le_of_ble_eq_true rfl⟩ hP hK hD hS hA rfl rfl rfl rfl hl.1 rfl (Nat.le_of_ble_eq_true rfl) dX1_isUsed_7 ⟨Nat.zero_le _, Nat.zero_le _⟩ (fun v9 H locs e9 hP hD hS => ?_)
  subst e9
  refine lv_if_eq (tgt := 15) hx hb dX1_isUsed_10 (by decide) (fun _ => ?_) (fun h => by first | exact absurd h (by decide) | exact absurd (by decide) h)
  refine lv_aload_n hx hb dX1_isUsed_15 rfl (lv_at hl 0 rfl) ?_
  refine va_get (D := D) (ci := 1) (v := .ref (A 1)) (C := RX1) (T := TX1) (N := 9) hx hb ht xin_X1 hown hK hP 0 rfl rfl 2 (by decide) (ht _ kfl_RX1_7) (fun _ h9 => h9) rfl dX1_isUsed_16 ?_
  refine lv_iload_n hx hb dX1_isUsed_19 rfl (lv_at hl 1 rfl) ?_
  refine lv_bipush (v := 96) hx hb dX1_isUsed_20 (by decide) ?_
  refine lv_isub hx hb dX1_isUsed_22 ?_
  refine xa_top (y := nI (16 * j + k)) (by rw [xp_96, pk_sub (by omega)]; congr 1; omega) ?_
  refine xa_zld hx hb hK hP 1 0 rfl rfl (v := xb (V (16 * j + k))) (show 16 * j + k < 2048 by omega) (by decide) rfl dX1_isUsed_23 ?_
  exact W.zret (v := xb (V (16 * j + k))) (ty := .boolean) hx hb hr (xn_b' _) (fun t ht hW => ⟨⟨_, rfl, rfl⟩, by rw [ht]; exact hP, hS.F ht⟩) hS.2.2 dX1_isUsed_24

set_option maxHeartbeats 4000000 in
set_option maxRecDepth 100000 in
/-- drop: no such block -/
theorem m_drop_bad (l : Launch) (D : va_G) (A : Nat → Nat) (K : Nat → ClassId) (th n : Nat) (V TV TO : Nat → Bool) (AG OP NX : Nat → Nat) (TK : Nat) (hn : n ≤ 128) (x : Int32) (hbad : ¬ ∃ j k : Nat, j < n ∧ k < 16 ∧ x = nI (96 + 16 * j + k)) (sz : Nat) : Met l yX1_drop (xw yX1_drop cX1_drop 3 none) ({ frames := 1, cells := 0, slots := 0, locals := 22 }) (xk_M [.ref (A 0), .int x] D (xm_T K) (xm_W A K th n V TV TO AG OP NX TK) sz) (xk_Q (fun v => v = none) D (xm_W A K th n V TV TO AG OP NX TK) (xm_W A K 1 n V TV TO AG OP NX TK)) 0 0 (va_A (xm_W A K th n V TV TO AG OP NX TK) sz) := by
  refine Met.ofW (cc := cX1_drop) (maxL := 3) (ret := none) (by decide) rfl ?_
  intro p e s m args below meth c s₁ B0 hml hv
  obtain ⟨rfl, hsz, hP, hK, hD0⟩ := hv
  have hx := B0.exec
  have hb := B0.bytes
  have hr := B0.returns
  have ht : ∀ w ∈ xT, w.before _ s = true := fun w h => atoms_spec (ws := xw yX1_drop cX1_drop 3 none) B0.pre w (List.mem_cons_of_mem _ h)
  have hown : s.vm.findClass RX1 = some m.cls := findClass_of_methodNamed B0.named
  have hlocks := B0.notSynchronized
  have hl := lv_entry ([.ref (A 0), .int x]) (n := 3) (Nat.le_of_ble_eq_true rfl)
  rw [lg_entry_eq]
  generalize (lg_sl ([.ref (A 0), .int x]) ++ List.replicate (3 - (lg_sl ([.ref (A 0), .int x])).length) Slot.unset).toArray = ls at hl ⊢
  have hl : lv_has ls 3 [(0, .ref (A 0)), (1, .int x)] := hl
  subst hsz
  have hD := hD0.self (sz := s.heap.size)
  have hA : ∀ q : Nat, s.heap.size ≤ q → va_A (xm_W A K th n V TV TO AG OP NX TK) s.heap.size q := fun q h => Or.inr h
  have hS : va_S (va_A (xm_W A K th n V TV TO AG OP NX TK) s.heap.size) s.heap s.heap [] := va_S.rf
  refine lv_aload_n hx hb dX1_drop_0 rfl (lv_at hl 0 rfl) ?_
  refine lv_iload_n hx hb dX1_drop_1 rfl (lv_at hl 1 rfl) ?_
  refine xr_V (n := 1) (As := [.int x]) (rest := []) ⟨hx, hb, hml, hown, ht⟩ (m_isNo l D A K th n V TV TO AG OP NX TK (x) hn) (xg_V kml_RX1_54 kim_yX1_isNo ksl_yX1_isNo kin_RX1 kco_yX1_isNo) ⟨rfl, rfl⟩ (by decide +kernel) ⟨Nat.le_of_ble_eq_true rfl, Nat.le_of_ble_eq_true rfl⟩ (xk_preV hP hK rfl rfl) rfl hl.1 rfl (Nat.le_of_ble_eq_true rfl) dX1_drop_2 ⟨Nat.le_of_ble_eq_true rfl, Nat.le_of_ble_eq_true rfl⟩ (fun r1 e1 => ?_)
  have e1 : r1 = xb true := e1.elim (fun z => absurd z.1 hbad) (fun z => z.2)
  subst e1
  refine lv_istore_n (lv' := [(2, .int (xb true)), (0, .ref (A 0)), (1, .int x)]) hx hb dX1_drop_5 rfl hl (by decide) rfl (fun ls hl => ?_)
  refine lv_aload_n hx hb dX1_drop_6 rfl (lv_at hl 1 rfl) ?_
  refine lv_iload_n hx hb dX1_drop_7 rfl (lv_at hl 0 rfl) ?_
  refine lv_iload_n hx hb dX1_drop_8 rfl (lv_at hl 0 rfl) ?_
  refine lv_if_ne (tgt := 36) hx hb dX1_drop_9 (by decide) (fun _ => ?_) (fun h => by first | exact absurd h (by decide) | exact absurd (by decide) h)
  refine lv_iconst (v := 0) hx hb dX1_drop_36 (by decide) ?_
  refine xr_M (n := 2) (As := [.int (xb true), .int (xb false)]) (rest := []) ⟨hx, hb, hml, hown, ht⟩ (m_throwing l D A K th n V TV TO AG OP NX TK true false _) (xg_V kml_RX1_47 kim_yX1_throwing ksl_yX1_throwing kin_RX1 kco_yX1_throwing) ⟨rfl, rfl⟩ (by decide +kernel) ⟨Nat.le_of_ble_eq_true rfl, Nat.le_of_ble_eq_true rfl⟩ hP hK hD hS hA rfl rfl rfl rfl hl.1 rfl (Nat.le_of_ble_eq_true rfl) dX1_drop_37 ⟨Nat.zero_le _, Nat.zero_le _⟩ (fun v9 H locs e9 hP hD hS => ?_)
  subst e9
  refine lv_if_eq (tgt := 44) hx hb dX1_drop_40 (by decide) (fun h => by first | exact absurd h (by decide) | exact absurd (by decide) h) (fun _ => ?_)
  exact W.vret hx hb hr (fun t ht hW => ⟨⟨none, rfl, rfl⟩, by rw [ht]; exact hP, hS.F ht⟩) hS.2.2 dX1_drop_43

set_option maxHeartbeats 4000000 in
set_option maxRecDepth 100000 in
/-- drop -/
theorem m_drop_no (l : Launch) (D : va_G) (A : Nat → Nat) (K : Nat → ClassId) (th n : Nat) (V TV TO : Nat → Bool) (AG OP NX : Nat → Nat) (TK : Nat) (hn : n ≤ 128) (j k : Nat) (hj : j < n) (hk : k < 16) (hs : V (16 * j + k) = false) (sz : Nat) : Met l yX1_drop (xw yX1_drop cX1_drop 3 none) ({ frames := 1, cells := 0, slots := 0, locals := 22 }) (xk_M [.ref (A 0), .int (nI (96 + 16 * j + k))] D (xm_T K) (xm_W A K th n V TV TO AG OP NX TK) sz) (xk_Q (fun v => v = none) D (xm_W A K th n V TV TO AG OP NX TK) (xm_W A K 2 n V TV TO AG OP NX TK)) 0 0 (va_A (xm_W A K th n V TV TO AG OP NX TK) sz) := by
  refine Met.ofW (cc := cX1_drop) (maxL := 3) (ret := none) (by decide) rfl ?_
  intro p e s m args below meth c s₁ B0 hml hv
  obtain ⟨rfl, hsz, hP, hK, hD0⟩ := hv
  have hx := B0.exec
  have hb := B0.bytes
  have hr := B0.returns
  have ht : ∀ w ∈ xT, w.before _ s = true := fun w h => atoms_spec (ws := xw yX1_drop cX1_drop 3 none) B0.pre w (List.mem_cons_of_mem _ h)
  have hown : s.vm.findClass RX1 = some m.cls := findClass_of_methodNamed B0.named
  have hlocks := B0.notSynchronized
  have hl := lv_entry ([.ref (A 0), .int (nI (96 + 16 * j + k))]) (n := 3) (Nat.le_of_ble_eq_true rfl)
  rw [lg_entry_eq]
  generalize (lg_sl ([.ref (A 0), .int (nI (96 + 16 * j + k))]) ++ List.replicate (3 - (lg_sl ([.ref (A 0), .int (nI (96 + 16 * j + k))])).length) Slot.unset).toArray = ls at hl ⊢
  have hl : lv_has ls 3 [(0, .ref (A 0)), (1, .int (nI (96 + 16 * j + k)))] := hl
  subst hsz
  have hD := hD0.self (sz := s.heap.size)
  have hA : ∀ q : Nat, s.heap.size ≤ q → va_A (xm_W A K th n V TV TO AG OP NX TK) s.heap.size q := fun q h => Or.inr h
  have hS : va_S (va_A (xm_W A K th n V TV TO AG OP NX TK) s.heap.size) s.heap s.heap [] := va_S.rf
  refine lv_aload_n hx hb dX1_drop_0 rfl (lv_at hl 0 rfl) ?_
  refine lv_iload_n hx hb dX1_drop_1 rfl (lv_at hl 1 rfl) ?_
  refine xr_V (n := 1) (As := [.int (nI (96 + 16 * j + k))]) (rest := []) ⟨hx, hb, hml, hown, ht⟩ (m_isNo l D A K th n V TV TO AG OP NX TK (nI (96 + 16 * j + k)) hn) (xg_V kml_RX1_54 kim_yX1_isNo ksl_yX1_isNo kin_RX1 kco_yX1_isNo) ⟨rfl, rfl⟩ (by decide +kernel) ⟨Nat.le_of_ble_eq_true rfl, Nat.le_of_ble_eq_true rfl⟩ (xk_preV hP hK rfl rfl) rfl hl.1 rfl (Nat.le_of_ble_eq_true rfl) dX1_drop_2 ⟨Nat.le_of_ble_eq_true rfl, Nat.le_of_ble_eq_true rfl⟩ (fun r1 e1 => ?_)
  have e1 : r1 = xb false := e1.elim (fun z => z.2) (fun z => absurd ⟨j, k, hj, hk, rfl⟩ z.1)
  subst e1
  refine lv_istore_n (lv' := [(2, .int (xb false)), (0, .ref (A 0)), (1, .int (nI (96 + 16 * j + k)))]) hx hb dX1_drop_5 rfl hl (by decide) rfl (fun ls hl => ?_)
  refine lv_aload_n hx hb dX1_drop_6 rfl (lv_at hl 1 rfl) ?_
  refine lv_iload_n hx hb dX1_drop_7 rfl (lv_at hl 0 rfl) ?_
  refine lv_iload_n hx hb dX1_drop_8 rfl (lv_at hl 0 rfl) ?_
  refine lv_if_ne (tgt := 36) hx hb dX1_drop_9 (by decide) (fun h => by first | exact absurd h (by decide) | exact absurd (by decide) h) (fun _ => ?_)
  refine lv_aload_n hx hb dX1_drop_12 rfl (lv_at hl 1 rfl) ?_
  refine va_get (D := D) (ci := 1) (v := .ref (A 1)) (C := RX1) (T := TX1) (N := 9) hx hb ht xin_X1 hown hK hP 0 rfl rfl 2 (by decide) (ht _ kfl_RX1_7) (fun _ h9 => h9) rfl dX1_drop_13 ?_
  refine lv_iload_n hx hb dX1_drop_16 rfl (lv_at hl 0 rfl) ?_
  refine lv_if_eq (tgt := 24) hx hb dX1_drop_17 (by decide) (fun _ => ?_) (fun h => by first | exact absurd h (by decide) | exact absurd (by decide) h)
  refine lv_iload_n hx hb dX1_drop_24 rfl (lv_at hl 2 rfl) ?_
  refine lv_bipush (v := 96) hx hb dX1_drop_25 (by decide) ?_
  refine lv_isub hx hb dX1_drop_27 ?_
  refine xa_top (y := nI (16 * j + k)) (by rw [xp_96, pk_sub (by omega)]; congr 1; omega) ?_
  refine xa_zld hx hb hK hP 1 0 rfl rfl (v := xb (V (16 * j + k))) (show 16 * j + k < 2048 by omega) (by decide) rfl dX1_drop_28 ?_
  rw [hs]
  refine lv_if_ne (tgt := 36) hx hb dX1_drop_29 (by decide) (fun h => by first | exact absurd h (by decide) | exact absurd (by decide) h) (fun _ => ?_)
  refine lv_iconst (v := 1) hx hb dX1_drop_32 (by decide) ?_
  refine lv_goto (tgt := 37) hx hb dX1_drop_33 (by decide) ?_
  refine xr_M (n := 2) (As := [.int (xb false), .int (xb true)]) (rest := []) ⟨hx, hb, hml, hown, ht⟩ (m_throwing l D A K th n V TV TO AG OP NX TK false true _) (xg_V kml_RX1_47 kim_yX1_throwing ksl_yX1_throwing kin_RX1 kco_yX1_throwing) ⟨rfl, rfl⟩ (by decide +kernel) ⟨Nat.le_of_ble_eq_true rfl, Nat.le_of_ble_eq_true rfl⟩ hP hK hD hS hA rfl rfl rfl rfl hl.1 rfl (Nat.le_of_ble_eq_true rfl) dX1_drop_37 ⟨Nat.zero_le _, Nat.zero_le _⟩ (fun v9 H locs e9 hP hD hS => ?_)
  subst e9
  refine lv_if_eq (tgt := 44) hx hb dX1_drop_40 (by decide) (fun h => by first | exact absurd h (by decide) | exact absurd (by decide) h) (fun _ => ?_)
  exact W.vret hx hb hr (fun t ht hW => ⟨⟨none, rfl, rfl⟩, by rw [ht]; exact hP, hS.F ht⟩) hS.2.2 dX1_drop_43

set_option maxHeartbeats 4000000 in
set_option maxRecDepth 100000 in
/-- drop -/
theorem m_drop_ok (l : Launch) (D : va_G) (A : Nat → Nat) (K : Nat → ClassId) (th n : Nat) (V TV TO : Nat → Bool) (AG OP NX : Nat → Nat) (TK : Nat) (hn : n ≤ 128) (j k : Nat) (hj : j < n) (hk : k < 16) (hs : V (16 * j + k) = true) (sz : Nat) : Met l yX1_drop (xw yX1_drop cX1_drop 3 none) ({ frames := 1, cells := 0, slots := 0, locals := 22 }) (xk_M [.ref (A 0), .int (nI (96 + 16 * j + k))] D (xm_T K) (xm_W A K th n V TV TO AG OP NX TK) sz) (xk_Q (fun v => v = none) D (xm_W A K th n V TV TO AG OP NX TK) (xm_W A K 0 n (va_up V (16 * j + k) false) TV TO AG OP NX TK)) 0 0 (va_A (xm_W A K th n V TV TO AG OP NX TK) sz) := by
  refine Met.ofW (cc := cX1_drop) (maxL := 3) (ret := none) (by decide) rfl ?_
  intro p e s m args below meth c s₁ B0 hml hv
  obtain ⟨rfl, hsz, hP, hK, hD0⟩ := hv
  have hx := B0.exec
  have hb := B0.bytes
  have hr := B0.returns
  have ht : ∀ w ∈ xT, w.before _ s = true := fun w h => atoms_spec (ws := xw yX1_drop cX1_drop 3 none) B0.pre w (List.mem_cons_of_mem _ h)
  have hown : s.vm.findClass RX1 = some m.cls := findClass_of_methodNamed B0.named
  have hlocks := B0.notSynchronized
  have hl := lv_entry ([.ref (A 0), .int (nI (96 + 16 * j + k))]) (n := 3) (Nat.le_of_ble_eq_true rfl)
  rw [lg_entry_eq]
  generalize (lg_sl ([.ref (A 0), .int (nI (96 + 16 * j + k))]) ++ List.replicate (3 - (lg_sl ([.ref (A 0), .int (nI (96 + 16 * j + k))])).length) Slot.unset).toArray = ls at hl ⊢
  have hl : lv_has ls 3 [(0, .ref (A 0)), (1, .int (nI (96 + 16 * j + k)))] := hl
  subst hsz
  have hD := hD0.self (sz := s.heap.size)
  have hA : ∀ q : Nat, s.heap.size ≤ q → va_A (xm_W A K th n V TV TO AG OP NX TK) s.heap.size q := fun q h => Or.inr h
  have hS : va_S (va_A (xm_W A K th n V TV TO AG OP NX TK) s.heap.size) s.heap s.heap [] := va_S.rf
  refine lv_aload_n hx hb dX1_drop_0 rfl (lv_at hl 0 rfl) ?_
  refine lv_iload_n hx hb dX1_drop_1 rfl (lv_at hl 1 rfl) ?_
  refine xr_V (n := 1) (As := [.int (nI (96 + 16 * j + k))]) (rest := []) ⟨hx, hb, hml, hown, ht⟩ (m_isNo l D A K th n V TV TO AG OP NX TK (nI (96 + 16 * j + k)) hn) (xg_V kml_RX1_54 kim_yX1_isNo ksl_yX1_isNo kin_RX1 kco_yX1_isNo) ⟨rfl, rfl⟩ (by decide +kernel) ⟨Nat.le_of_ble_eq_true rfl, Nat.le_of_ble_eq_true rfl⟩ (xk_preV hP hK rfl rfl) rfl hl.1 rfl (Nat.le_of_ble_eq_true rfl) dX1_drop_2 ⟨Nat.le_of_ble_eq_true rfl, Nat.le_of_ble_eq_true rfl⟩ (fun r1 e1 => ?_)
  have e1 : r1 = xb false := e1.elim (fun z => z.2) (fun z => absurd ⟨j, k, hj, hk, rfl⟩ z.1)
  subst e1
  refine lv_istore_n (lv' := [(2, .int (xb false)), (0, .ref (A 0)), (1, .int (nI (96 + 16 * j + k)))]) hx hb dX1_drop_5 rfl hl (by decide) rfl (fun ls hl => ?_)
  refine lv_aload_n hx hb dX1_drop_6 rfl (lv_at hl 1 rfl) ?_
  refine lv_iload_n hx hb dX1_drop_7 rfl (lv_at hl 0 rfl) ?_
  refine lv_iload_n hx hb dX1_drop_8 rfl (lv_at hl 0 rfl) ?_
  refine lv_if_ne (tgt := 36) hx hb dX1_drop_9 (by decide) (fun h => by first | exact absurd h (by decide) | exact absurd (by decide) h) (fun _ => ?_)
  refine lv_aload_n hx hb dX1_drop_12 rfl (lv_at hl 1 rfl) ?_
  refine va_get (D := D) (ci := 1) (v := .ref (A 1)) (C := RX1) (T := TX1) (N := 9) hx hb ht xin_X1 hown hK hP 0 rfl rfl 2 (by decide) (ht _ kfl_RX1_7) (fun _ h9 => h9) rfl dX1_drop_13 ?_
  refine lv_iload_n hx hb dX1_drop_16 rfl (lv_at hl 0 rfl) ?_
  refine lv_if_eq (tgt := 24) hx hb dX1_drop_17 (by decide) (fun _ => ?_) (fun h => by first | exact absurd h (by decide) | exact absurd (by decide) h)
  refine lv_iload_n hx hb dX1_drop_24 rfl (lv_at hl 2 rfl) ?_
  refine lv_bipush (v := 96) hx hb dX1_drop_25 (by decide) ?_
  refine lv_isub hx hb dX1_drop_27 ?_
  refine xa_top (y := nI (16 * j + k)) (by rw [xp_96, pk_sub (by omega)]; congr 1; omega) ?_
  refine xa_zld hx hb hK hP 1 0 rfl rfl (v := xb (V (16 * j + k))) (show 16 * j + k < 2048 by omega) (by decide) rfl dX1_drop_28 ?_
  rw [hs]
  refine lv_if_ne (tgt := 36) hx hb dX1_drop_29 (by decide) (fun _ => ?_) (fun h => by first | exact absurd h (by decide) | exact absurd (by decide) h)
  refine lv_iconst (v := 0) hx hb dX1_drop_36 (by decide) ?_
  refine xr_M (n := 2) (As := [.int (xb false), .int (xb false)]) (rest := []) ⟨hx, hb, hml, hown, ht⟩ (m_throwing l D A K th n V TV TO AG OP NX TK false false _) (xg_V kml_RX1_47 kim_yX1_throwing ksl_yX1_throwing kin_RX1 kco_yX1_throwing) ⟨rfl, rfl⟩ (by decide +kernel) ⟨Nat.le_of_ble_eq_true rfl, Nat.le_of_ble_eq_true rfl⟩ hP hK hD hS hA rfl rfl rfl rfl hl.1 rfl (Nat.le_of_ble_eq_true rfl) dX1_drop_37 ⟨Nat.zero_le _, Nat.zero_le _⟩ (fun v9 H locs e9 hP hD hS => ?_)
  subst e9
  refine lv_if_eq (tgt := 44) hx hb dX1_drop_40 (by decide) (fun _ => ?_) (fun h => by first | exact absurd h (by decide) | exact absurd (by decide) h)
  refine lv_aload_n hx hb dX1_drop_44 rfl (lv_at hl 1 rfl) ?_
  refine va_get (D := D) (ci := 1) (v := .ref (A 1)) (C := RX1) (T := TX1) (N := 9) hx hb ht xin_X1 hown hK hP 0 rfl rfl 2 (by decide) (ht _ kfl_RX1_7) (fun _ h9 => h9) rfl dX1_drop_45 ?_
  refine lv_iload_n hx hb dX1_drop_48 rfl (lv_at hl 2 rfl) ?_
  refine lv_bipush (v := 96) hx hb dX1_drop_49 (by decide) ?_
  refine lv_isub hx hb dX1_drop_51 ?_
  refine xa_top (y := nI (16 * j + k)) (by rw [xp_96, pk_sub (by omega)]; congr 1; omega) ?_
  refine lv_iconst (v := 0) hx hb dX1_drop_52 (by decide) ?_
  refine xa_zst hx hb hK hP hD hS 1 0 rfl rfl (show 16 * j + k < 2048 by omega) (by decide) (xu_z V (16 * j + k) false) dX1_drop_53 (fun H locs hP hD hS => ?_)
  have hP : va_P D xcl (xm_W A K 0 n (va_up V (16 * j + k) false) TV TO AG OP NX TK) H := hP
  have hD : va_D (va_A (xm_W A K th n V TV TO AG OP NX TK) s.heap.size) (xm_W A K 0 n (va_up V (16 * j + k) false) TV TO AG OP NX TK) := hD
  exact W.vret hx hb hr (fun t ht hW => ⟨⟨none, rfl, rfl⟩, by rw [ht]; exact hP, hS.F ht⟩) hS.2.2 dX1_drop_54

set_option maxHeartbeats 4000000 in
set_option maxRecDepth 100000 in
/-- take: no such log -/
theorem m_take_bad (l : Launch) (D : va_G) (A : Nat → Nat) (K : Nat → ClassId) (th n : Nat) (V TV TO : Nat → Bool) (AG OP NX : Nat → Nat) (TK : Nat) (x : Int32) (hbad : ¬ ∃ j : Nat, j < 6 ∧ x = nI j) (sz : Nat) : Met l yX1_take (xw yX1_take cX1_take 7 (some .int)) ({ frames := 3, cells := 0, slots := 0, locals := 67 }) (xk_M [.ref (A 0), .int x] D (xm_T K) (xm_W A K th n V TV TO AG OP NX TK) sz) (xk_Q (fun v => ∃ r : Int32, v = some (.int r)) D (xm_W A K th n V TV TO AG OP NX TK) (xm_W A K 1 n V TV TO AG OP NX TK)) 0 0 (va_A (xm_W A K th n V TV TO AG OP NX TK) sz) := by
  refine Met.ofW (cc := cX1_take) (maxL := 7) (ret := (some .int)) (by decide) rfl ?_
  intro p e s m args below meth c s₁ B0 hml hv
  obtain ⟨rfl, hsz, hP, hK, hD0⟩ := hv
  have hx := B0.exec
  have hb := B0.bytes
  have hr := B0.returns
  have ht : ∀ w ∈ xT, w.before _ s = true := fun w h => atoms_spec (ws := xw yX1_take cX1_take 7 (some .int)) B0.pre w (List.mem_cons_of_mem _ h)
  have hown : s.vm.findClass RX1 = some m.cls := findClass_of_methodNamed B0.named
  have hlocks := B0.notSynchronized
  have hl := lv_entry ([.ref (A 0), .int x]) (n := 7) (Nat.le_of_ble_eq_true rfl)
  rw [lg_entry_eq]
  generalize (lg_sl ([.ref (A 0), .int x]) ++ List.replicate (7 - (lg_sl ([.ref (A 0), .int x])).length) Slot.unset).toArray = ls at hl ⊢
  have hl : lv_has ls 7 [(0, .ref (A 0)), (1, .int x)] := hl
  subst hsz
  have hD := hD0.self (sz := s.heap.size)
  have hA : ∀ q : Nat, s.heap.size ≤ q → va_A (xm_W A K th n V TV TO AG OP NX TK) s.heap.size q := fun q h => Or.inr h
  have hS : va_S (va_A (xm_W A K th n V TV TO AG OP NX TK) s.heap.size) s.heap s.heap [] := va_S.rf
  have tail : ∀ ls : Array Slot, lv_has ls 7 [(0, .ref (A 0)), (1, .int x)] → W p l e (headSpec (xw yX1_take cX1_take 7 (some .int)) ({ frames := 3, cells := 0, slots := 0, locals := 67 })).room s m ([.ref (A 0), .int x] : List Value).toArray below meth c s.heap [] 0 0 (MQ below (xk_Q (fun v => ∃ r : Int32, v = some (.int r)) D (xm_W A K th n V TV TO AG OP NX TK) (xm_W A K 1 n V TV TO AG OP NX TK)) ([.ref (A 0), .int x] : List Value).toArray s 0 0 (va_A (xm_W A K th n V TV TO AG OP NX TK) s.heap.size)) (F0 m 14 ls [.int (xb true)]) := by
    intro ls hl
    refine lv_istore_n (lv' := [(2, .int (xb true)), (0, .ref (A 0)), (1, .int x)]) hx hb dX1_take_14 rfl hl (by decide) rfl (fun ls hl => ?_)
    refine lv_iload_n hx hb dX1_take_15 rfl (lv_at hl 0 rfl) ?_
    refine lv_if_ne (tgt := 34) hx hb dX1_take_16 (by decide) (fun _ => ?_) (fun h => by first | exact absurd h (by decide) | exact absurd (by decide) h)
    refine lv_iconst (v := 0) hx hb dX1_take_34 (by decide) ?_
    refine lv_istore_n (lv' := [(3, .int 0), (2, .int (xb true)), (0, .ref (A 0)), (1, .int x)]) hx hb dX1_take_35 rfl hl (by decide) rfl (fun ls hl => ?_)
    refine lv_iload_n hx hb dX1_take_36 rfl (lv_at hl 0 rfl) ?_
    refine lv_if_eq (tgt := 47) hx hb dX1_take_37 (by decide) (fun _ => ?_) (fun h => by first | exact absurd h (by decide) | exact absurd (by decide) h)
    refine lv_iconst (v := -1) hx hb dX1_take_47 (by decide) ?_
    refine lv_istore (lv' := [(4, .int (-1)), (3, .int 0), (2, .int (xb true)), (0, .ref (A 0)), (1, .int x)]) hx hb dX1_take_48 hl (by decide) rfl (fun ls hl => ?_)
    refine lv_aload_n hx hb dX1_take_50 rfl (lv_at hl 3 rfl) ?_
    refine lv_iload_n hx hb dX1_take_51 rfl (lv_at hl 2 rfl) ?_
    refine lv_iload_n hx hb dX1_take_52 rfl (lv_at hl 1 rfl) ?_
    refine lv_if_eq (tgt := 65) hx hb dX1_take_53 (by decide) (fun _ => ?_) (fun h => by first | exact absurd h (by decide) | exact absurd (by decide) h)
    refine lv_iconst (v := 0) hx hb dX1_take_65 (by decide) ?_
    refine xr_M (n := 2) (As := [.int (xb true), .int (xb false)]) (rest := []) ⟨hx, hb, hml, hown, ht⟩ (m_throwing l D A K th n V TV TO AG OP NX TK true false _) (xg_V kml_RX1_47 kim_yX1_throwing ksl_yX1_throwing kin_RX1 kco_yX1_throwing) ⟨rfl, rfl⟩ (by decide +kernel) ⟨Nat.le_of_ble_eq_true rfl, Nat.le_of_ble_eq_true rfl⟩ hP hK hD hS hA rfl rfl rfl rfl hl.1 rfl (Nat.le_of_ble_eq_true rfl) dX1_take_66 ⟨Nat.zero_le _, Nat.zero_le _⟩ (fun v9 H locs e9 hP hD hS => ?_)
    subst e9
    refine lv_if_eq (tgt := 74) hx hb dX1_take_69 (by decide) (fun h => by first | exact absurd h (by decide) | exact absurd (by decide) h) (fun _ => ?_)
    refine lv_iconst (v := 0) hx hb dX1_take_72 (by decide) ?_
    exact W.iret (v := 0) hx hb hr (fun t ht hW => ⟨⟨_, rfl, ⟨_, rfl⟩⟩, by rw [ht]; exact hP, hS.F ht⟩) hS.2.2 dX1_take_73
  refine lv_iload_n hx hb dX1_take_0 rfl (lv_at hl 1 rfl) ?_
  refine lv_if_lt (tgt := 9) hx hb dX1_take_1 (by decide) (fun h1 => ?_) (fun h1 => ?_)
  · refine lv_iconst (v := 1) hx hb dX1_take_9 (by decide) ?_
    refine lv_goto (tgt := 14) hx hb dX1_take_10 (by decide) ?_
    exact tail ls (lv_sub hl [0, 1] rfl)
  · refine lv_iload_n hx hb dX1_take_4 rfl (lv_at hl 1 rfl) ?_
    refine lv_iconst (v := 5) hx hb dX1_take_5 (by decide) ?_
    refine lv_icmp_le (tgt := 13) hx hb dX1_take_6 (by decide) (fun h2 => ?_) (fun h2 => ?_)
    · exact absurd (by
        rcases pk_ix x (n := 6) (by decide) with q | q | q
        · exact absurd q h1
        · exact absurd (Int32.le_trans q h2) (by decide)
        · exact q) hbad
    · refine lv_iconst (v := 1) hx hb dX1_take_9 (by decide) ?_
      refine lv_goto (tgt := 14) hx hb dX1_take_10 (by decide) ?_
      exact tail ls (lv_sub hl [0, 1] rfl)

set_option maxHeartbeats 4000000 in
set_option maxRecDepth 100000 in
/-- take, the segment goes on -/
theorem m_take_stay (l : Launch) (D : va_G) (A : Nat → Nat) (K : Nat → ClassId) (th n : Nat) (V TV TO : Nat → Bool) (AG OP NX : Nat → Nat) (TK : Nat) (hn : n ≤ 128) (hOP : ∀ q, q < 6 → OP q < 128) (q j k : Nat) (hq : q < 6) (hO : OP q = j) (hN : NX q = k) (hj : j < n) (hk : k < 15) (sz : Nat) : Met l yX1_take (xw yX1_take cX1_take 7 (some .int)) ({ frames := 3, cells := 0, slots := 0, locals := 67 }) (xk_M [.ref (A 0), .int (nI q)] D (xm_T K) (xm_W A K th n V TV TO AG OP NX TK) sz) (xk_Q (fun v => v = some (.int (nI (96 + 16 * j + k)))) D (xm_W A K th n V TV TO AG OP NX TK) (xm_W A K 0 n (va_up V (16 * j + k) true) TV (va_up TO j true) (va_up AG j (TK + 1)) OP (va_up NX q (k + 1)) (TK + 1))) 0 0 (va_A (xm_W A K th n V TV TO AG OP NX TK) sz) := by
  refine Met.ofW (cc := cX1_take) (maxL := 7) (ret := (some .int)) (by decide) rfl ?_
  intro p e s m args below meth c s₁ B0 hml hv
  obtain ⟨rfl, hsz, hP, hK, hD0⟩ := hv
  have hx := B0.exec
  have hb := B0.bytes
  have hr := B0.returns
  have ht : ∀ w ∈ xT, w.before _ s = true := fun w h => atoms_spec (ws := xw yX1_take cX1_take 7 (some .int)) B0.pre w (List.mem_cons_of_mem _ h)
  have hown : s.vm.findClass RX1 = some m.cls := findClass_of_methodNamed B0.named
  have hlocks := B0.notSynchronized
  have hl := lv_entry ([.ref (A 0), .int (nI q)]) (n := 7) (Nat.le_of_ble_eq_true rfl)
  rw [lg_entry_eq]
  generalize (lg_sl ([.ref (A 0), .int (nI q)]) ++ List.replicate (7 - (lg_sl ([.ref (A 0), .int (nI q)])).length) Slot.unset).toArray = ls at hl ⊢
  have hl : lv_has ls 7 [(0, .ref (A 0)), (1, .int (nI q))] := hl
  subst hsz
  have hD := hD0.self (sz := s.heap.size)
  have hA : ∀ q : Nat, s.heap.size ≤ q → va_A (xm_W A K th n V TV TO AG OP NX TK) s.heap.size q := fun q h => Or.inr h
  have hS : va_S (va_A (xm_W A K th n V TV TO AG OP NX TK) s.heap.size) s.heap s.heap [] := va_S.rf
  refine lv_iload_n hx hb dX1_take_0 rfl (lv_at hl 1 rfl) ?_
  refine lv_if_lt (tgt := 9) hx hb dX1_take_1 (by decide) (fun h => absurd h (nI_pos (by omega))) (fun _ => ?_)
  refine lv_iload_n hx hb dX1_take_4 rfl (lv_at hl 1 rfl) ?_
  refine lv_iconst (v := 5) hx hb dX1_take_5 (by decide) ?_
  refine lv_icmp_le (tgt := 13) hx hb dX1_take_6 (by decide) (fun _ => ?_) (fun h => absurd (nI_le (b := 5) (by omega) (by decide)) h)
  refine lv_iconst (v := 0) hx hb dX1_take_13 (by decide) ?_
  refine xa_top (y := xb false) rfl ?_
  refine lv_istore_n (lv' := [(2, .int (xb false)), (0, .ref (A 0)), (1, .int (nI q))]) hx hb dX1_take_14 rfl hl (by decide) rfl (fun ls hl => ?_)
  refine lv_iload_n hx hb dX1_take_15 rfl (lv_at hl 0 rfl) ?_
  refine lv_if_ne (tgt := 34) hx hb dX1_take_16 (by decide) (fun h => by first | exact absurd h (by decide) | exact absurd (by decide) h) (fun _ => ?_)
  refine lv_aload_n hx hb dX1_take_19 rfl (lv_at hl 1 rfl) ?_
  refine va_get (D := D) (ci := 1) (v := .ref (A 6)) (C := RX1) (T := TX1) (N := 9) hx hb ht xin_X1 hown hK hP 0 rfl rfl 7 (by decide) (ht _ kfl_RX1_26) (fun _ h9 => h9) rfl dX1_take_20 ?_
  refine lv_iload_n hx hb dX1_take_23 rfl (lv_at hl 2 rfl) ?_
  refine xa_ild hx hb hK hP 6 5 rfl rfl (v := nI k) hq (by decide) (by show nI (NX q) = _; rw [hN]) dX1_take_24 ?_
  refine lv_bipush (v := 15) hx hb dX1_take_25 (by decide) ?_
  refine lv_icmp_ne (tgt := 34) hx hb dX1_take_27 (by decide) (fun _ => ?_) (fun h => absurd ((nI_eq (b := 15) (by omega) (by decide)).mp h) (by omega))
  refine lv_iconst (v := 0) hx hb dX1_take_34 (by decide) ?_
  refine lv_istore_n (lv' := [(3, .int 0), (2, .int (xb false)), (0, .ref (A 0)), (1, .int (nI q))]) hx hb dX1_take_35 rfl hl (by decide) rfl (fun ls hl => ?_)
  refine lv_iload_n hx hb dX1_take_36 rfl (lv_at hl 0 rfl) ?_
  refine lv_if_eq (tgt := 47) hx hb dX1_take_37 (by decide) (fun _ => ?_) (fun h => by first | exact absurd h (by decide) | exact absurd (by decide) h)
  refine lv_iconst (v := -1) hx hb dX1_take_47 (by decide) ?_
  refine lv_istore (lv' := [(4, .int (-1)), (3, .int 0), (2, .int (xb false)), (0, .ref (A 0)), (1, .int (nI q))]) hx hb dX1_take_48 hl (by decide) rfl (fun ls hl => ?_)
  refine lv_aload_n hx hb dX1_take_50 rfl (lv_at hl 3 rfl) ?_
  refine lv_iload_n hx hb dX1_take_51 rfl (lv_at hl 2 rfl) ?_
  refine lv_iload_n hx hb dX1_take_52 rfl (lv_at hl 1 rfl) ?_
  refine lv_if_eq (tgt := 65) hx hb dX1_take_53 (by decide) (fun _ => ?_) (fun h => by first | exact absurd h (by decide) | exact absurd (by decide) h)
  refine lv_iconst (v := 0) hx hb dX1_take_65 (by decide) ?_
  refine xr_M (n := 2) (As := [.int (xb false), .int (xb false)]) (rest := []) ⟨hx, hb, hml, hown, ht⟩ (m_throwing l D A K th n V TV TO AG OP NX TK false false _) (xg_V kml_RX1_47 kim_yX1_throwing ksl_yX1_throwing kin_RX1 kco_yX1_throwing) ⟨rfl, rfl⟩ (by decide +kernel) ⟨Nat.le_of_ble_eq_true rfl, Nat.le_of_ble_eq_true rfl⟩ hP hK hD hS hA rfl rfl rfl rfl hl.1 rfl (Nat.le_of_ble_eq_true rfl) dX1_take_66 ⟨Nat.zero_le _, Nat.zero_le _⟩ (fun v9 H locs e9 hP hD hS => ?_)
  subst e9
  refine lv_if_eq (tgt := 74) hx hb dX1_take_69 (by decide) (fun _ => ?_) (fun h => by first | exact absurd h (by decide) | exact absurd (by decide) h)
  refine lv_aload_n hx hb dX1_take_74 rfl (lv_at hl 3 rfl) ?_
  refine va_get (D := D) (ci := 1) (v := .ref (A 5)) (C := RX1) (T := TX1) (N := 9) hx hb ht xin_X1 hown hK hP 0 rfl rfl 6 (by decide) (ht _ kfl_RX1_23) (fun _ h9 => h9) rfl dX1_take_75 ?_
  refine lv_iload_n hx hb dX1_take_78 rfl (lv_at hl 4 rfl) ?_
  refine xa_ild hx hb hK hP 5 4 rfl rfl (v := nI j) hq (by decide) (by show nI (OP q) = _; rw [hO]) dX1_take_79 ?_
  refine lv_istore (lv' := [(5, .int (nI j)), (4, .int (-1)), (3, .int 0), (2, .int (xb false)), (0, .ref (A 0)), (1, .int (nI q))]) hx hb dX1_take_80 hl (by decide) rfl (fun ls hl => ?_)
  refine lv_bipush (v := 16) hx hb dX1_take_82 (by decide) ?_
  refine lv_iload hx hb dX1_take_84 (lv_at hl 0 rfl) ?_
  refine lv_imul hx hb dX1_take_86 ?_
  refine lv_aload_n hx hb dX1_take_87 rfl (lv_at hl 4 rfl) ?_
  refine va_get (D := D) (ci := 1) (v := .ref (A 6)) (C := RX1) (T := TX1) (N := 9) hx hb ht xin_X1 hown hK hP 0 rfl rfl 7 (by decide) (ht _ kfl_RX1_26) (fun _ h9 => h9) rfl dX1_take_88 ?_
  refine lv_iload_n hx hb dX1_take_91 rfl (lv_at hl 5 rfl) ?_
  refine xa_ild hx hb hK hP 6 5 rfl rfl (v := nI k) hq (by decide) (by show nI (NX q) = _; rw [hN]) dX1_take_92 ?_
  refine lv_iadd hx hb dX1_take_93 ?_
  refine xa_top (y := nI (16 * j + k)) (xix j k) ?_
  refine lv_istore (lv' := [(6, .int (nI (16 * j + k))), (5, .int (nI j)), (4, .int (-1)), (3, .int 0), (2, .int (xb false)), (0, .ref (A 0)), (1, .int (nI q))]) hx hb dX1_take_94 hl (by decide) rfl (fun ls hl => ?_)
  refine lv_aload_n hx hb dX1_take_96 rfl (lv_at hl 5 rfl) ?_
  refine va_get (D := D) (ci := 1) (v := .ref (A 1)) (C := RX1) (T := TX1) (N := 9) hx hb ht xin_X1 hown hK hP 0 rfl rfl 2 (by decide) (ht _ kfl_RX1_7) (fun _ h9 => h9) rfl dX1_take_97 ?_
  refine lv_iload hx hb dX1_take_100 (lv_at hl 0 rfl) ?_
  refine lv_iconst (v := 1) hx hb dX1_take_102 (by decide) ?_
  refine xa_zst hx hb hK hP hD hS 1 0 rfl rfl (show 16 * j + k < 2048 by omega) (by decide) (xu_z V (16 * j + k) true) dX1_take_103 (fun H locs hP hD hS => ?_)
  have hP : va_P D xcl (xm_W A K 0 n (va_up V (16 * j + k) true) TV TO AG OP NX TK) H := hP
  have hD : va_D (va_A (xm_W A K th n V TV TO AG OP NX TK) s.heap.size) (xm_W A K 0 n (va_up V (16 * j + k) true) TV TO AG OP NX TK) := hD
  refine lv_aload_n hx hb dX1_take_104 rfl (lv_at hl 5 rfl) ?_
  refine va_get (D := D) (ci := 1) (v := .ref (A 3)) (C := RX1) (T := TX1) (N := 9) hx hb ht xin_X1 hown hK hP 0 rfl rfl 4 (by decide) (ht _ kfl_RX1_16) (fun _ h9 => h9) rfl dX1_take_105 ?_
  refine lv_iload hx hb dX1_take_108 (lv_at hl 1 rfl) ?_
  refine lv_iconst (v := 1) hx hb dX1_take_110 (by decide) ?_
  refine xa_zst hx hb hK hP hD hS 3 2 rfl rfl (show j < 128 by omega) (by decide) (xu_z TO j true) dX1_take_111 (fun H locs hP hD hS => ?_)
  have hP : va_P D xcl (xm_W A K 0 n (va_up V (16 * j + k) true) TV (va_up TO j true) AG OP NX TK) H := hP
  have hD : va_D (va_A (xm_W A K th n V TV TO AG OP NX TK) s.heap.size) (xm_W A K 0 n (va_up V (16 * j + k) true) TV (va_up TO j true) AG OP NX TK) := hD
  refine lv_aload_n hx hb dX1_take_112 rfl (lv_at hl 5 rfl) ?_
  refine lv_dup hx hb dX1_take_113 rfl ?_
  refine va_get (D := D) (ci := 1) (v := .int (nI TK)) (C := RX1) (T := TX1) (N := 9) hx hb ht xin_X1 hown hK hP 0 rfl rfl 8 (by decide) (ht _ kfl_RX1_51) (fun _ h9 => h9) rfl dX1_take_114 ?_
  refine lv_iconst (v := 1) hx hb dX1_take_117 (by decide) ?_
  refine lv_iadd hx hb dX1_take_118 ?_
  refine xa_top (y := nI (TK + 1)) (nI_1 TK) ?_
  refine va_put (D := D) (ci := 1) (v := .int (nI (TK + 1))) (ty := .int) (C := RX1) (T := TX1) (N := 9) hx hb ht xin_X1 tyX1 tyX1_ok nmX1 hown hK hP hD hS 0 rfl rfl 8 (by decide) (ht _ kfl_RX1_51) (fun _ h9 => h9) rfl (by decide +kernel) rfl rfl (Nat.le_of_ble_eq_true rfl) dX1_take_119 (fun H locs hP hD hS => ?_)
  have hP : va_P D xcl (xm_W A K 0 n (va_up V (16 * j + k) true) TV (va_up TO j true) AG OP NX (TK + 1)) H := hP
  have hD : va_D (va_A (xm_W A K th n V TV TO AG OP NX TK) s.heap.size) (xm_W A K 0 n (va_up V (16 * j + k) true) TV (va_up TO j true) AG OP NX (TK + 1)) := hD
  refine lv_aload_n hx hb dX1_take_122 rfl (lv_at hl 5 rfl) ?_
  refine va_get (D := D) (ci := 1) (v := .ref (A 4)) (C := RX1) (T := TX1) (N := 9) hx hb ht xin_X1 hown hK hP 0 rfl rfl 5 (by decide) (ht _ kfl_RX1_19) (fun _ h9 => h9) rfl dX1_take_123 ?_
  refine lv_iload hx hb dX1_take_126 (lv_at hl 1 rfl) ?_
  refine lv_aload_n hx hb dX1_take_128 rfl (lv_at hl 5 rfl) ?_
  refine va_get (D := D) (ci := 1) (v := .int (nI (TK + 1))) (C := RX1) (T := TX1) (N := 9) hx hb ht xin_X1 hown hK hP 0 rfl rfl 8 (by decide) (ht _ kfl_RX1_51) (fun _ h9 => h9) rfl dX1_take_129 ?_
  refine xa_ist hx hb hK hP hD hS 4 3 rfl rfl (show j < 128 by omega) (by decide) (xu_n AG j _) dX1_take_132 (fun H locs hP hD hS => ?_)
  have hP : va_P D xcl (xm_W A K 0 n (va_up V (16 * j + k) true) TV (va_up TO j true) (va_up AG j (TK + 1)) OP NX (TK + 1)) H := hP
  have hD : va_D (va_A (xm_W A K th n V TV TO AG OP NX TK) s.heap.size) (xm_W A K 0 n (va_up V (16 * j + k) true) TV (va_up TO j true) (va_up AG j (TK + 1)) OP NX (TK + 1)) := hD
  refine lv_aload_n hx hb dX1_take_133 rfl (lv_at hl 5 rfl) ?_
  refine va_get (D := D) (ci := 1) (v := .ref (A 6)) (C := RX1) (T := TX1) (N := 9) hx hb ht xin_X1 hown hK hP 0 rfl rfl 7 (by decide) (ht _ kfl_RX1_26) (fun _ h9 => h9) rfl dX1_take_134 ?_
  refine lv_iload_n hx hb dX1_take_137 rfl (lv_at hl 6 rfl) ?_
  refine lv_dup2_11 hx hb dX1_take_138 rfl rfl ?_
  refine xa_ild hx hb hK hP 6 5 rfl rfl (v := nI k) hq (by decide) (by show nI (NX q) = _; rw [hN]) dX1_take_139 ?_
  refine lv_iconst (v := 1) hx hb dX1_take_140 (by decide) ?_
  refine lv_iadd hx hb dX1_take_141 ?_
  refine xa_top (y := nI (k + 1)) (nI_1 k) ?_
  refine xa_ist hx hb hK hP hD hS 6 5 rfl rfl hq (by decide) (xu_n NX q _) dX1_take_142 (fun H locs hP hD hS => ?_)
  have hP : va_P D xcl (xm_W A K 0 n (va_up V (16 * j + k) true) TV (va_up TO j true) (va_up AG j (TK + 1)) OP (va_up NX q (k + 1)) (TK + 1)) H := hP
  have hD : va_D (va_A (xm_W A K th n V TV TO AG OP NX TK) s.heap.size) (xm_W A K 0 n (va_up V (16 * j + k) true) TV (va_up TO j true) (va_up AG j (TK + 1)) OP (va_up NX q (k + 1)) (TK + 1)) := hD
  refine lv_iload_n hx hb dX1_take_143 rfl (lv_at hl 3 rfl) ?_
  refine lv_if_eq (tgt := 170) hx hb dX1_take_144 (by decide) (fun _ => ?_) (fun h => by first | exact absurd h (by decide) | exact absurd (by decide) h)
  refine lv_bipush (v := 96) hx hb dX1_take_170 (by decide) ?_
  refine lv_iload hx hb dX1_take_172 (lv_at hl 0 rfl) ?_
  refine lv_iadd hx hb dX1_take_174 ?_
  refine xa_top (y := nI (96 + 16 * j + k)) (by rw [xp_96, nI_add, Nat.add_assoc]) ?_
  exact W.iret (v := nI (96 + 16 * j + k)) hx hb hr (fun t ht hW => ⟨⟨_, rfl, rfl⟩, by rw [ht]; exact hP, hS.F ht⟩) hS.2.2 dX1_take_175

set_option maxHeartbeats 4000000 in
set_option maxRecDepth 100000 in
/-- take, a segment is opened -/
theorem m_take_open (l : Launch) (D : va_G) (A : Nat → Nat) (K : Nat → ClassId) (th n : Nat) (V TV TO : Nat → Bool) (AG OP NX : Nat → Nat) (TK : Nat) (hn : n ≤ 128) (hOP : ∀ q, q < 6 → OP q < 128) (q j k : Nat) (hq : q < 6) (hO : OP q = j) (hN : NX q = k) (hj : j < n) (hk : k = 15) (o : Nat) (ho : o < n) (ho1 : xmfr V TV TO OP o = true) (ho2 : ∀ i, i < o → xmfr V TV TO OP i = false) (sz : Nat) : Met l yX1_take (xw yX1_take cX1_take 7 (some .int)) ({ frames := 3, cells := 0, slots := 0, locals := 67 }) (xk_M [.ref (A 0), .int (nI q)] D (xm_T K) (xm_W A K th n V TV TO AG OP NX TK) sz) (xk_Q (fun v => v = some (.int (nI (96 + 16 * j + k)))) D (xm_W A K th n V TV TO AG OP NX TK) (xm_W A K 0 n (va_up V (16 * j + k) true) TV (va_up (va_up TO j true) o true) (va_up AG j (TK + 1)) (va_up OP q o) (va_up (va_up NX q (k + 1)) q 0) (TK + 1))) 0 0 (va_A (xm_W A K th n V TV TO AG OP NX TK) sz) := by
  refine Met.ofW (cc := cX1_take) (maxL := 7) (ret := (some .int)) (by decide) rfl ?_
  intro p e s m args below meth c s₁ B0 hml hv
  obtain ⟨rfl, hsz, hP, hK, hD0⟩ := hv
  have hx := B0.exec
  have hb := B0.bytes
  have hr := B0.returns
  have ht : ∀ w ∈ xT, w.before _ s = true := fun w h => atoms_spec (ws := xw yX1_take cX1_take 7 (some .int)) B0.pre w (List.mem_cons_of_mem _ h)
  have hown : s.vm.findClass RX1 = some m.cls := findClass_of_methodNamed B0.named
  have hlocks := B0.notSynchronized
  have hl := lv_entry ([.ref (A 0), .int (nI q)]) (n := 7) (Nat.le_of_ble_eq_true rfl)
  rw [lg_entry_eq]
  generalize (lg_sl ([.ref (A 0), .int (nI q)]) ++ List.replicate (7 - (lg_sl ([.ref (A 0), .int (nI q)])).length) Slot.unset).toArray = ls at hl ⊢
  have hl : lv_has ls 7 [(0, .ref (A 0)), (1, .int (nI q))] := hl
  subst hsz
  have hD := hD0.self (sz := s.heap.size)
  have hA : ∀ q : Nat, s.heap.size ≤ q → va_A (xm_W A K th n V TV TO AG OP NX TK) s.heap.size q := fun q h => Or.inr h
  have hS : va_S (va_A (xm_W A K th n V TV TO AG OP NX TK) s.heap.size) s.heap s.heap [] := va_S.rf
  refine lv_iload_n hx hb dX1_take_0 rfl (lv_at hl 1 rfl) ?_
  refine lv_if_lt (tgt := 9) hx hb dX1_take_1 (by decide) (fun h => absurd h (nI_pos (by omega))) (fun _ => ?_)
  refine lv_iload_n hx hb dX1_take_4 rfl (lv_at hl 1 rfl) ?_
  refine lv_iconst (v := 5) hx hb dX1_take_5 (by decide) ?_
  refine lv_icmp_le (tgt := 13) hx hb dX1_take_6 (by decide) (fun _ => ?_) (fun h => absurd (nI_le (b := 5) (by omega) (by decide)) h)
  refine lv_iconst (v := 0) hx hb dX1_take_13 (by decide) ?_
  refine xa_top (y := xb false) rfl ?_
  refine lv_istore_n (lv' := [(2, .int (xb false)), (0, .ref (A 0)), (1, .int (nI q))]) hx hb dX1_take_14 rfl hl (by decide) rfl (fun ls hl => ?_)
  refine lv_iload_n hx hb dX1_take_15 rfl (lv_at hl 0 rfl) ?_
  refine lv_if_ne (tgt := 34) hx hb dX1_take_16 (by decide) (fun h => by first | exact absurd h (by decide) | exact absurd (by decide) h) (fun _ => ?_)
  refine lv_aload_n hx hb dX1_take_19 rfl (lv_at hl 1 rfl) ?_
  refine va_get (D := D) (ci := 1) (v := .ref (A 6)) (C := RX1) (T := TX1) (N := 9) hx hb ht xin_X1 hown hK hP 0 rfl rfl 7 (by decide) (ht _ kfl_RX1_26) (fun _ h9 => h9) rfl dX1_take_20 ?_
  refine lv_iload_n hx hb dX1_take_23 rfl (lv_at hl 2 rfl) ?_
  refine xa_ild hx hb hK hP 6 5 rfl rfl (v := nI k) hq (by decide) (by show nI (NX q) = _; rw [hN]) dX1_take_24 ?_
  refine lv_bipush (v := 15) hx hb dX1_take_25 (by decide) ?_
  refine lv_icmp_ne (tgt := 34) hx hb dX1_take_27 (by decide) (fun h => absurd (by rw [hk]; rfl) h) (fun _ => ?_)
  refine lv_iconst (v := 1) hx hb dX1_take_30 (by decide) ?_
  refine lv_goto (tgt := 35) hx hb dX1_take_31 (by decide) ?_
  refine lv_istore_n (lv' := [(3, .int 1), (2, .int (xb false)), (0, .ref (A 0)), (1, .int (nI q))]) hx hb dX1_take_35 rfl hl (by decide) rfl (fun ls hl => ?_)
  refine lv_iload_n hx hb dX1_take_36 rfl (lv_at hl 0 rfl) ?_
  refine lv_if_eq (tgt := 47) hx hb dX1_take_37 (by decide) (fun h => by first | exact absurd h (by decide) | exact absurd (by decide) h) (fun _ => ?_)
  refine lv_aload_n hx hb dX1_take_40 rfl (lv_at hl 2 rfl) ?_
  refine xr_V (n := 0) (As := []) (rest := []) ⟨hx, hb, hml, hown, ht⟩ (m_lowest l D A K th n V TV TO AG OP NX TK hn hOP) (xg_V kml_RX1_43 kim_yX1_lowest ksl_yX1_lowest kin_RX1 kco_yX1_lowest) ⟨rfl, rfl⟩ (by decide +kernel) ⟨Nat.le_of_ble_eq_true rfl, Nat.le_of_ble_eq_true rfl⟩ (xk_preV hP hK rfl rfl) rfl hl.1 rfl (Nat.le_of_ble_eq_true rfl) dX1_take_41 ⟨Nat.le_of_ble_eq_true rfl, Nat.le_of_ble_eq_true rfl⟩ (fun r2 e2 => ?_)
  have e2 : r2 = nI o := by
    rcases e2 with ⟨o9, h9, f1, f2, rfl⟩ | ⟨f1, -⟩
    · rcases Nat.lt_trichotomy o o9 with z | z | z
      · rw [f2 o z] at ho1; cases ho1
      · rw [z]
      · rw [ho2 o9 z] at f1; cases f1
    · rw [f1 o ho] at ho1; cases ho1
  subst e2
  refine lv_goto (tgt := 48) hx hb dX1_take_44 (by decide) ?_
  refine lv_istore (lv' := [(4, .int (nI o)), (3, .int 1), (2, .int (xb false)), (0, .ref (A 0)), (1, .int (nI q))]) hx hb dX1_take_48 hl (by decide) rfl (fun ls hl => ?_)
  refine lv_aload_n hx hb dX1_take_50 rfl (lv_at hl 3 rfl) ?_
  refine lv_iload_n hx hb dX1_take_51 rfl (lv_at hl 2 rfl) ?_
  refine lv_iload_n hx hb dX1_take_52 rfl (lv_at hl 1 rfl) ?_
  refine lv_if_eq (tgt := 65) hx hb dX1_take_53 (by decide) (fun h => by first | exact absurd h (by decide) | exact absurd (by decide) h) (fun _ => ?_)
  refine lv_iload hx hb dX1_take_56 (lv_at hl 0 rfl) ?_
  refine lv_if_ge (tgt := 65) hx hb dX1_take_58 (by decide) (fun _ => ?_) (fun h => absurd (nI_pos' (by omega)) h)
  refine lv_iconst (v := 0) hx hb dX1_take_65 (by decide) ?_
  refine xr_M (n := 2) (As := [.int (xb false), .int (xb false)]) (rest := []) ⟨hx, hb, hml, hown, ht⟩ (m_throwing l D A K th n V TV TO AG OP NX TK false false _) (xg_V kml_RX1_47 kim_yX1_throwing ksl_yX1_throwing kin_RX1 kco_yX1_throwing) ⟨rfl, rfl⟩ (by decide +kernel) ⟨Nat.le_of_ble_eq_true rfl, Nat.le_of_ble_eq_true rfl⟩ hP hK hD hS hA rfl rfl rfl rfl hl.1 rfl (Nat.le_of_ble_eq_true rfl) dX1_take_66 ⟨Nat.zero_le _, Nat.zero_le _⟩ (fun v9 H locs e9 hP hD hS => ?_)
  subst e9
  refine lv_if_eq (tgt := 74) hx hb dX1_take_69 (by decide) (fun _ => ?_) (fun h => by first | exact absurd h (by decide) | exact absurd (by decide) h)
  refine lv_aload_n hx hb dX1_take_74 rfl (lv_at hl 3 rfl) ?_
  refine va_get (D := D) (ci := 1) (v := .ref (A 5)) (C := RX1) (T := TX1) (N := 9) hx hb ht xin_X1 hown hK hP 0 rfl rfl 6 (by decide) (ht _ kfl_RX1_23) (fun _ h9 => h9) rfl dX1_take_75 ?_
  refine lv_iload_n hx hb dX1_take_78 rfl (lv_at hl 4 rfl) ?_
  refine xa_ild hx hb hK hP 5 4 rfl rfl (v := nI j) hq (by decide) (by show nI (OP q) = _; rw [hO]) dX1_take_79 ?_
  refine lv_istore (lv' := [(5, .int (nI j)), (4, .int (nI o)), (3, .int 1), (2, .int (xb false)), (0, .ref (A 0)), (1, .int (nI q))]) hx hb dX1_take_80 hl (by decide) rfl (fun ls hl => ?_)
  refine lv_bipush (v := 16) hx hb dX1_take_82 (by decide) ?_
  refine lv_iload hx hb dX1_take_84 (lv_at hl 0 rfl) ?_
  refine lv_imul hx hb dX1_take_86 ?_
  refine lv_aload_n hx hb dX1_take_87 rfl (lv_at hl 4 rfl) ?_
  refine va_get (D := D) (ci := 1) (v := .ref (A 6)) (C := RX1) (T := TX1) (N := 9) hx hb ht xin_X1 hown hK hP 0 rfl rfl 7 (by decide) (ht _ kfl_RX1_26) (fun _ h9 => h9) rfl dX1_take_88 ?_
  refine lv_iload_n hx hb dX1_take_91 rfl (lv_at hl 5 rfl) ?_
  refine xa_ild hx hb hK hP 6 5 rfl rfl (v := nI k) hq (by decide) (by show nI (NX q) = _; rw [hN]) dX1_take_92 ?_
  refine lv_iadd hx hb dX1_take_93 ?_
  refine xa_top (y := nI (16 * j + k)) (xix j k) ?_
  refine lv_istore (lv' := [(6, .int (nI (16 * j + k))), (5, .int (nI j)), (4, .int (nI o)), (3, .int 1), (2, .int (xb false)), (0, .ref (A 0)), (1, .int (nI q))]) hx hb dX1_take_94 hl (by decide) rfl (fun ls hl => ?_)
  refine lv_aload_n hx hb dX1_take_96 rfl (lv_at hl 5 rfl) ?_
  refine va_get (D := D) (ci := 1) (v := .ref (A 1)) (C := RX1) (T := TX1) (N := 9) hx hb ht xin_X1 hown hK hP 0 rfl rfl 2 (by decide) (ht _ kfl_RX1_7) (fun _ h9 => h9) rfl dX1_take_97 ?_
  refine lv_iload hx hb dX1_take_100 (lv_at hl 0 rfl) ?_
  refine lv_iconst (v := 1) hx hb dX1_take_102 (by decide) ?_
  refine xa_zst hx hb hK hP hD hS 1 0 rfl rfl (show 16 * j + k < 2048 by omega) (by decide) (xu_z V (16 * j + k) true) dX1_take_103 (fun H locs hP hD hS => ?_)
  have hP : va_P D xcl (xm_W A K 0 n (va_up V (16 * j + k) true) TV TO AG OP NX TK) H := hP
  have hD : va_D (va_A (xm_W A K th n V TV TO AG OP NX TK) s.heap.size) (xm_W A K 0 n (va_up V (16 * j + k) true) TV TO AG OP NX TK) := hD
  refine lv_aload_n hx hb dX1_take_104 rfl (lv_at hl 5 rfl) ?_
  refine va_get (D := D) (ci := 1) (v := .ref (A 3)) (C := RX1) (T := TX1) (N := 9) hx hb ht xin_X1 hown hK hP 0 rfl rfl 4 (by decide) (ht _ kfl_RX1_16) (fun _ h9 => h9) rfl dX1_take_105 ?_
  refine lv_iload hx hb dX1_take_108 (lv_at hl 1 rfl) ?_
  refine lv_iconst (v := 1) hx hb dX1_take_110 (by decide) ?_
  refine xa_zst hx hb hK hP hD hS 3 2 rfl rfl (show j < 128 by omega) (by decide) (xu_z TO j true) dX1_take_111 (fun H locs hP hD hS => ?_)
  have hP : va_P D xcl (xm_W A K 0 n (va_up V (16 * j + k) true) TV (va_up TO j true) AG OP NX TK) H := hP
  have hD : va_D (va_A (xm_W A K th n V TV TO AG OP NX TK) s.heap.size) (xm_W A K 0 n (va_up V (16 * j + k) true) TV (va_up TO j true) AG OP NX TK) := hD
  refine lv_aload_n hx hb dX1_take_112 rfl (lv_at hl 5 rfl) ?_
  refine lv_dup hx hb dX1_take_113 rfl ?_
  refine va_get (D := D) (ci := 1) (v := .int (nI TK)) (C := RX1) (T := TX1) (N := 9) hx hb ht xin_X1 hown hK hP 0 rfl rfl 8 (by decide) (ht _ kfl_RX1_51) (fun _ h9 => h9) rfl dX1_take_114 ?_
  refine lv_iconst (v := 1) hx hb dX1_take_117 (by decide) ?_
  refine lv_iadd hx hb dX1_take_118 ?_
  refine xa_top (y := nI (TK + 1)) (nI_1 TK) ?_
  refine va_put (D := D) (ci := 1) (v := .int (nI (TK + 1))) (ty := .int) (C := RX1) (T := TX1) (N := 9) hx hb ht xin_X1 tyX1 tyX1_ok nmX1 hown hK hP hD hS 0 rfl rfl 8 (by decide) (ht _ kfl_RX1_51) (fun _ h9 => h9) rfl (by decide +kernel) rfl rfl (Nat.le_of_ble_eq_true rfl) dX1_take_119 (fun H locs hP hD hS => ?_)
  have hP : va_P D xcl (xm_W A K 0 n (va_up V (16 * j + k) true) TV (va_up TO j true) AG OP NX (TK + 1)) H := hP
  have hD : va_D (va_A (xm_W A K th n V TV TO AG OP NX TK) s.heap.size) (xm_W A K 0 n (va_up V (16 * j + k) true) TV (va_up TO j true) AG OP NX (TK + 1)) := hD
  refine lv_aload_n hx hb dX1_take_122 rfl (lv_at hl 5 rfl) ?_
  refine va_get (D := D) (ci := 1) (v := .ref (A 4)) (C := RX1) (T := TX1) (N := 9) hx hb ht xin_X1 hown hK hP 0 rfl rfl 5 (by decide) (ht _ kfl_RX1_19) (fun _ h9 => h9) rfl dX1_take_123 ?_
  refine lv_iload hx hb dX1_take_126 (lv_at hl 1 rfl) ?_
  refine lv_aload_n hx hb dX1_take_128 rfl (lv_at hl 5 rfl) ?_
  refine va_get (D := D) (ci := 1) (v := .int (nI (TK + 1))) (C := RX1) (T := TX1) (N := 9) hx hb ht xin_X1 hown hK hP 0 rfl rfl 8 (by decide) (ht _ kfl_RX1_51) (fun _ h9 => h9) rfl dX1_take_129 ?_
  refine xa_ist hx hb hK hP hD hS 4 3 rfl rfl (show j < 128 by omega) (by decide) (xu_n AG j _) dX1_take_132 (fun H locs hP hD hS => ?_)
  have hP : va_P D xcl (xm_W A K 0 n (va_up V (16 * j + k) true) TV (va_up TO j true) (va_up AG j (TK + 1)) OP NX (TK + 1)) H := hP
  have hD : va_D (va_A (xm_W A K th n V TV TO AG OP NX TK) s.heap.size) (xm_W A K 0 n (va_up V (16 * j + k) true) TV (va_up TO j true) (va_up AG j (TK + 1)) OP NX (TK + 1)) := hD
  refine lv_aload_n hx hb dX1_take_133 rfl (lv_at hl 5 rfl) ?_
  refine va_get (D := D) (ci := 1) (v := .ref (A 6)) (C := RX1) (T := TX1) (N := 9) hx hb ht xin_X1 hown hK hP 0 rfl rfl 7 (by decide) (ht _ kfl_RX1_26) (fun _ h9 => h9) rfl dX1_take_134 ?_
  refine lv_iload_n hx hb dX1_take_137 rfl (lv_at hl 6 rfl) ?_
  refine lv_dup2_11 hx hb dX1_take_138 rfl rfl ?_
  refine xa_ild hx hb hK hP 6 5 rfl rfl (v := nI k) hq (by decide) (by show nI (NX q) = _; rw [hN]) dX1_take_139 ?_
  refine lv_iconst (v := 1) hx hb dX1_take_140 (by decide) ?_
  refine lv_iadd hx hb dX1_take_141 ?_
  refine xa_top (y := nI (k + 1)) (nI_1 k) ?_
  refine xa_ist hx hb hK hP hD hS 6 5 rfl rfl hq (by decide) (xu_n NX q _) dX1_take_142 (fun H locs hP hD hS => ?_)
  have hP : va_P D xcl (xm_W A K 0 n (va_up V (16 * j + k) true) TV (va_up TO j true) (va_up AG j (TK + 1)) OP (va_up NX q (k + 1)) (TK + 1)) H := hP
  have hD : va_D (va_A (xm_W A K th n V TV TO AG OP NX TK) s.heap.size) (xm_W A K 0 n (va_up V (16 * j + k) true) TV (va_up TO j true) (va_up AG j (TK + 1)) OP (va_up NX q (k + 1)) (TK + 1)) := hD
  refine lv_iload_n hx hb dX1_take_143 rfl (lv_at hl 3 rfl) ?_
  refine lv_if_eq (tgt := 170) hx hb dX1_take_144 (by decide) (fun h => by first | exact absurd h (by decide) | exact absurd (by decide) h) (fun _ => ?_)
  refine lv_aload_n hx hb dX1_take_147 rfl (lv_at hl 5 rfl) ?_
  refine va_get (D := D) (ci := 1) (v := .ref (A 5)) (C := RX1) (T := TX1) (N := 9) hx hb ht xin_X1 hown hK hP 0 rfl rfl 6 (by decide) (ht _ kfl_RX1_23) (fun _ h9 => h9) rfl dX1_take_148 ?_
  refine lv_iload_n hx hb dX1_take_151 rfl (lv_at hl 6 rfl) ?_
  refine lv_iload hx hb dX1_take_152 (lv_at hl 2 rfl) ?_
  refine xa_ist hx hb hK hP hD hS 5 4 rfl rfl hq (by decide) (xu_n OP q _) dX1_take_154 (fun H locs hP hD hS => ?_)
  have hP : va_P D xcl (xm_W A K 0 n (va_up V (16 * j + k) true) TV (va_up TO j true) (va_up AG j (TK + 1)) (va_up OP q o) (va_up NX q (k + 1)) (TK + 1)) H := hP
  have hD : va_D (va_A (xm_W A K th n V TV TO AG OP NX TK) s.heap.size) (xm_W A K 0 n (va_up V (16 * j + k) true) TV (va_up TO j true) (va_up AG j (TK + 1)) (va_up OP q o) (va_up NX q (k + 1)) (TK + 1)) := hD
  refine lv_aload_n hx hb dX1_take_155 rfl (lv_at hl 5 rfl) ?_
  refine va_get (D := D) (ci := 1) (v := .ref (A 3)) (C := RX1) (T := TX1) (N := 9) hx hb ht xin_X1 hown hK hP 0 rfl rfl 4 (by decide) (ht _ kfl_RX1_16) (fun _ h9 => h9) rfl dX1_take_156 ?_
  refine lv_iload hx hb dX1_take_159 (lv_at hl 2 rfl) ?_
  refine lv_iconst (v := 1) hx hb dX1_take_161 (by decide) ?_
  refine xa_zst hx hb hK hP hD hS 3 2 rfl rfl (show o < 128 by omega) (by decide) (xu_z (va_up TO j true) o true) dX1_take_162 (fun H locs hP hD hS => ?_)
  have hP : va_P D xcl (xm_W A K 0 n (va_up V (16 * j + k) true) TV (va_up (va_up TO j true) o true) (va_up AG j (TK + 1)) (va_up OP q o) (va_up NX q (k + 1)) (TK + 1)) H := hP
  have hD : va_D (va_A (xm_W A K th n V TV TO AG OP NX TK) s.heap.size) (xm_W A K 0 n (va_up V (16 * j + k) true) TV (va_up (va_up TO j true) o true) (va_up AG j (TK + 1)) (va_up OP q o) (va_up NX q (k + 1)) (TK + 1)) := hD
  refine lv_aload_n hx hb dX1_take_163 rfl (lv_at hl 5 rfl) ?_
  refine va_get (D := D) (ci := 1) (v := .ref (A 6)) (C := RX1) (T := TX1) (N := 9) hx hb ht xin_X1 hown hK hP 0 rfl rfl 7 (by decide) (ht _ kfl_RX1_26) (fun _ h9 => h9) rfl dX1_take_164 ?_
  refine lv_iload_n hx hb dX1_take_167 rfl (lv_at hl 6 rfl) ?_
  refine lv_iconst (v := 0) hx hb dX1_take_168 (by decide) ?_
  refine xa_ist hx hb hK hP hD hS 6 5 rfl rfl hq (by decide) (xu_n (va_up NX q (k + 1)) q 0) dX1_take_169 (fun H locs hP hD hS => ?_)
  have hP : va_P D xcl (xm_W A K 0 n (va_up V (16 * j + k) true) TV (va_up (va_up TO j true) o true) (va_up AG j (TK + 1)) (va_up OP q o) (va_up (va_up NX q (k + 1)) q 0) (TK + 1)) H := hP
  have hD : va_D (va_A (xm_W A K th n V TV TO AG OP NX TK) s.heap.size) (xm_W A K 0 n (va_up V (16 * j + k) true) TV (va_up (va_up TO j true) o true) (va_up AG j (TK + 1)) (va_up OP q o) (va_up (va_up NX q (k + 1)) q 0) (TK + 1)) := hD
  refine lv_bipush (v := 96) hx hb dX1_take_170 (by decide) ?_
  refine lv_iload hx hb dX1_take_172 (lv_at hl 0 rfl) ?_
  refine lv_iadd hx hb dX1_take_174 ?_
  refine xa_top (y := nI (96 + 16 * j + k)) (by rw [xp_96, nI_add, Nat.add_assoc]) ?_
  exact W.iret (v := nI (96 + 16 * j + k)) hx hb hr (fun t ht hW => ⟨⟨_, rfl, rfl⟩, by rw [ht]; exact hP, hS.F ht⟩) hS.2.2 dX1_take_175

set_option maxHeartbeats 4000000 in
set_option maxRecDepth 100000 in
/-- take: none to open -/
theorem m_take_full (l : Launch) (D : va_G) (A : Nat → Nat) (K : Nat → ClassId) (th n : Nat) (V TV TO : Nat → Bool) (AG OP NX : Nat → Nat) (TK : Nat) (hn : n ≤ 128) (hOP : ∀ q, q < 6 → OP q < 128) (q j k : Nat) (hq : q < 6) (hO : OP q = j) (hN : NX q = k) (hk : k = 15) (hf : ∀ i, i < n → xmfr V TV TO OP i = false) (sz : Nat) : Met l yX1_take (xw yX1_take cX1_take 7 (some .int)) ({ frames := 3, cells := 0, slots := 0, locals := 67 }) (xk_M [.ref (A 0), .int (nI q)] D (xm_T K) (xm_W A K th n V TV TO AG OP NX TK) sz) (xk_Q (fun v => ∃ r : Int32, v = some (.int r)) D (xm_W A K th n V TV TO AG OP NX TK) (xm_W A K 2 n V TV TO AG OP NX TK)) 0 0 (va_A (xm_W A K th n V TV TO AG OP NX TK) sz) := by
  refine Met.ofW (cc := cX1_take) (maxL := 7) (ret := (some .int)) (by decide) rfl ?_
  intro p e s m args below meth c s₁ B0 hml hv
  obtain ⟨rfl, hsz, hP, hK, hD0⟩ := hv
  have hx := B0.exec
  have hb := B0.bytes
  have hr := B0.returns
  have ht : ∀ w ∈ xT, w.before _ s = true := fun w h => atoms_spec (ws := xw yX1_take cX1_take 7 (some .int)) B0.pre w (List.mem_cons_of_mem _ h)
  have hown : s.vm.findClass RX1 = some m.cls := findClass_of_methodNamed B0.named
  have hlocks := B0.notSynchronized
  have hl := lv_entry ([.ref (A 0), .int (nI q)]) (n := 7) (Nat.le_of_ble_eq_true rfl)
  rw [lg_entry_eq]
  generalize (lg_sl ([.ref (A 0), .int (nI q)]) ++ List.replicate (7 - (lg_sl ([.ref (A 0), .int (nI q)])).length) Slot.unset).toArray = ls at hl ⊢
  have hl : lv_has ls 7 [(0, .ref (A 0)), (1, .int (nI q))] := hl
  subst hsz
  have hD := hD0.self (sz := s.heap.size)
  have hA : ∀ q : Nat, s.heap.size ≤ q → va_A (xm_W A K th n V TV TO AG OP NX TK) s.heap.size q := fun q h => Or.inr h
  have hS : va_S (va_A (xm_W A K th n V TV TO AG OP NX TK) s.heap.size) s.heap s.heap [] := va_S.rf
  refine lv_iload_n hx hb dX1_take_0 rfl (lv_at hl 1 rfl) ?_
  refine lv_if_lt (tgt := 9) hx hb dX1_take_1 (by decide) (fun h => absurd h (nI_pos (by omega))) (fun _ => ?_)
  refine lv_iload_n hx hb dX1_take_4 rfl (lv_at hl 1 rfl) ?_
  refine lv_iconst (v := 5) hx hb dX1_take_5 (by decide) ?_
  refine lv_icmp_le (tgt := 13) hx hb dX1_take_6 (by decide) (fun _ => ?_) (fun h => absurd (nI_le (b := 5) (by omega) (by decide)) h)
  refine lv_iconst (v := 0) hx hb dX1_take_13 (by decide) ?_
  refine xa_top (y := xb false) rfl ?_
  refine lv_istore_n (lv' := [(2, .int (xb false)), (0, .ref (A 0)), (1, .int (nI q))]) hx hb dX1_take_14 rfl hl (by decide) rfl (fun ls hl => ?_)
  refine lv_iload_n hx hb dX1_take_15 rfl (lv_at hl 0 rfl) ?_
  refine lv_if_ne (tgt := 34) hx hb dX1_take_16 (by decide) (fun h => by first | exact absurd h (by decide) | exact absurd (by decide) h) (fun _ => ?_)
  refine lv_aload_n hx hb dX1_take_19 rfl (lv_at hl 1 rfl) ?_
  refine va_get (D := D) (ci := 1) (v := .ref (A 6)) (C := RX1) (T := TX1) (N := 9) hx hb ht xin_X1 hown hK hP 0 rfl rfl 7 (by decide) (ht _ kfl_RX1_26) (fun _ h9 => h9) rfl dX1_take_20 ?_
  refine lv_iload_n hx hb dX1_take_23 rfl (lv_at hl 2 rfl) ?_
  refine xa_ild hx hb hK hP 6 5 rfl rfl (v := nI k) hq (by decide) (by show nI (NX q) = _; rw [hN]) dX1_take_24 ?_
  refine lv_bipush (v := 15) hx hb dX1_take_25 (by decide) ?_
  refine lv_icmp_ne (tgt := 34) hx hb dX1_take_27 (by decide) (fun h => absurd (by rw [hk]; rfl) h) (fun _ => ?_)
  refine lv_iconst (v := 1) hx hb dX1_take_30 (by decide) ?_
  refine lv_goto (tgt := 35) hx hb dX1_take_31 (by decide) ?_
  refine lv_istore_n (lv' := [(3, .int 1), (2, .int (xb false)), (0, .ref (A 0)), (1, .int (nI q))]) hx hb dX1_take_35 rfl hl (by decide) rfl (fun ls hl => ?_)
  refine lv_iload_n hx hb dX1_take_36 rfl (lv_at hl 0 rfl) ?_
  refine lv_if_eq (tgt := 47) hx hb dX1_take_37 (by decide) (fun h => by first | exact absurd h (by decide) | exact absurd (by decide) h) (fun _ => ?_)
  refine lv_aload_n hx hb dX1_take_40 rfl (lv_at hl 2 rfl) ?_
  refine xr_V (n := 0) (As := []) (rest := []) ⟨hx, hb, hml, hown, ht⟩ (m_lowest l D A K th n V TV TO AG OP NX TK hn hOP) (xg_V kml_RX1_43 kim_yX1_lowest ksl_yX1_lowest kin_RX1 kco_yX1_lowest) ⟨rfl, rfl⟩ (by decide +kernel) ⟨Nat.le_of_ble_eq_true rfl, Nat.le_of_ble_eq_true rfl⟩ (xk_preV hP hK rfl rfl) rfl hl.1 rfl (Nat.le_of_ble_eq_true rfl) dX1_take_41 ⟨Nat.le_of_ble_eq_true rfl, Nat.le_of_ble_eq_true rfl⟩ (fun r2 e2 => ?_)
  have e2 : r2 = -1 := by
    rcases e2 with ⟨o9, h9, f1, f2, rfl⟩ | ⟨f1, rfl⟩
    · rw [hf o9 h9] at f1; cases f1
    · rfl
  subst e2
  refine lv_goto (tgt := 48) hx hb dX1_take_44 (by decide) ?_
  refine lv_istore (lv' := [(4, .int (-1)), (3, .int 1), (2, .int (xb false)), (0, .ref (A 0)), (1, .int (nI q))]) hx hb dX1_take_48 hl (by decide) rfl (fun ls hl => ?_)
  refine lv_aload_n hx hb dX1_take_50 rfl (lv_at hl 3 rfl) ?_
  refine lv_iload_n hx hb dX1_take_51 rfl (lv_at hl 2 rfl) ?_
  refine lv_iload_n hx hb dX1_take_52 rfl (lv_at hl 1 rfl) ?_
  refine lv_if_eq (tgt := 65) hx hb dX1_take_53 (by decide) (fun h => by first | exact absurd h (by decide) | exact absurd (by decide) h) (fun _ => ?_)
  refine lv_iload hx hb dX1_take_56 (lv_at hl 0 rfl) ?_
  refine lv_if_ge (tgt := 65) hx hb dX1_take_58 (by decide) (fun h => by first | exact absurd h (by decide) | exact absurd (by decide) h) (fun _ => ?_)
  refine lv_iconst (v := 1) hx hb dX1_take_61 (by decide) ?_
  refine lv_goto (tgt := 66) hx hb dX1_take_62 (by decide) ?_
  refine xr_M (n := 2) (As := [.int (xb false), .int (xb true)]) (rest := []) ⟨hx, hb, hml, hown, ht⟩ (m_throwing l D A K th n V TV TO AG OP NX TK false true _) (xg_V kml_RX1_47 kim_yX1_throwing ksl_yX1_throwing kin_RX1 kco_yX1_throwing) ⟨rfl, rfl⟩ (by decide +kernel) ⟨Nat.le_of_ble_eq_true rfl, Nat.le_of_ble_eq_true rfl⟩ hP hK hD hS hA rfl rfl rfl rfl hl.1 rfl (Nat.le_of_ble_eq_true rfl) dX1_take_66 ⟨Nat.zero_le _, Nat.zero_le _⟩ (fun v9 H locs e9 hP hD hS => ?_)
  subst e9
  refine lv_if_eq (tgt := 74) hx hb dX1_take_69 (by decide) (fun h => by first | exact absurd h (by decide) | exact absurd (by decide) h) (fun _ => ?_)
  refine lv_iconst (v := 0) hx hb dX1_take_72 (by decide) ?_
  exact W.iret (v := 0) hx hb hr (fun t ht hW => ⟨⟨_, rfl, ⟨_, rfl⟩⟩, by rw [ht]; exact hP, hS.F ht⟩) hS.2.2 dX1_take_73
