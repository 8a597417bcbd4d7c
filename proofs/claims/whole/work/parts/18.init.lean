def xA6 (a0 a1 a2 a3 a4 a5 : Nat) : Nat → Nat
  | 0 => a0
  | 1 => a1
  | 2 => a2
  | 3 => a3
  | 4 => a4
  | _ => a5
def xA7 (a0 a1 a2 a3 a4 a5 a6 : Nat) : Nat → Nat
  | 0 => a0
  | 1 => a1
  | 2 => a2
  | 3 => a3
  | 4 => a4
  | 5 => a5
  | _ => a6
/-- the logs' first blocks, the first segments taken, the reference's open segments: the first i logs -/
def xB0 : Nat → Nat → Nat
  | 0 => fun _ => 0
  | i + 1 => va_up (xB0 i) i (96 + 16 * i)
def xZ0 : Nat → Nat → Bool
  | 0 => fun _ => false
  | i + 1 => va_up (xZ0 i) i true
def xO0 : Nat → Nat → Nat
  | 0 => fun _ => 0
  | i + 1 => va_up (xO0 i) i i
/-- how many segments -/
def xseg (x : Int32) (n : Nat) : Prop := (12 ≤ n ∧ n ≤ 128 ∧ x = nI n) ∨ (n = 12 ∧ (x < 12 ∨ ¬ x ≤ 128))
theorem xseg_n {x : Int32} {n : Nat} (h : xseg x n) : 12 ≤ n ∧ n ≤ 128 := by rcases h with h | h <;> omega
theorem xseg_ex (x : Int32) : ∃ n, xseg x n := by
  by_cases h1 : x < 12
  · exact ⟨12, Or.inr ⟨rfl, Or.inl h1⟩⟩
  by_cases h2 : x ≤ 128
  · have h0 : ¬ x < 0 := fun h => h1 (by
      rw [Int32.lt_iff_toInt_lt] at h ⊢
      have e0 : (0 : Int32).toInt = 0 := by decide
      have e1 : (12 : Int32).toInt = 12 := by decide
      omega)
    obtain ⟨t, ht, rfl⟩ := nI_of h0
    refine ⟨t, Or.inl ⟨?_, ?_, rfl⟩⟩
    · rcases Nat.lt_or_ge t 12 with q | q
      · exact absurd (nI_lt (b := 12) q (by decide)) h1
      · exact q
    · exact (nI_leI ht (by decide)).mp (show nI t ≤ nI 128 from h2)
  · exact ⟨12, Or.inr ⟨rfl, Or.inr h2⟩⟩
def xk_C (D : va_G) (ws : va_W) (o : Nat) (tyf : (Nat → ClassId) → List (ClassId × FieldType)) (wf : (Nat → Nat) → (Nat → ClassId) → va_W) : Array Value → State → Outcome → State → Prop := fun _ st oc t =>
  oc = .returned none ∧ (∃ (A : Nat → Nat) (K : Nat → ClassId), A 0 = o ∧ va_P D xcl (wf A K) t.heap ∧ va_K D xcl (tyf K) t ∧ va_D (va_A ws st.heap.size) (wf A K)) ∧ va_F (va_A ws st.heap.size) st t
set_option maxHeartbeats 4000000 in
set_option maxRecDepth 100000 in
theorem c_init (l : Launch) (D : va_G) (o : Nat) (x : Int32) (n : Nat) (hseg : xseg x n) (sz : Nat) : Met l yX0_init (xw yX0_init cX0_init 3 none) ({ frames := 1, cells := 5, slots := 518, locals := 20 }) (xk_M [.ref o, .int x] D [] [(o, .inr (0, [.int 0, .null, .null, .null, .null, .null, .int 0]))] sz) (xk_C D [(o, .inr (0, [.int 0, .null, .null, .null, .null, .null, .int 0]))] o xc_T (fun A K => xc_W A K n (fun _ => 0) (fun _ => 0) (fun _ => 0) (xZ0 6) (xB0 6) 0)) 5 518 (va_A [(o, .inr (0, [.int 0, .null, .null, .null, .null, .null, .int 0]))] sz) := by
  refine Met.ofW (cc := cX0_init) (maxL := 3) (ret := none) (by decide) rfl ?_
  intro p e s m args below meth c s₁ B0 hml hv
  obtain ⟨rfl, hsz, hP, hK, hD0⟩ := hv
  have hx := B0.exec
  have hb := B0.bytes
  have hr := B0.returns
  have ht : ∀ w ∈ xT, w.before _ s = true := fun w h => atoms_spec (ws := xw yX0_init cX0_init 3 none) B0.pre w (List.mem_cons_of_mem _ h)
  have hown : s.vm.findClass RX0 = some m.cls := findClass_of_methodNamed B0.named
  have hlocks := B0.notSynchronized
  have hin9 : meth.name = "<init>" := (name_of_methodNamed B0.named B0.method).1
  subst hsz
  have hD := hD0.self (sz := s.heap.size)
  obtain ⟨A0, hA0⟩ : ∃ z, z = va_A [(o, .inr (0, [.int 0, .null, .null, .null, .null, .null, .int 0]))] s.heap.size := ⟨_, rfl⟩
  rw [← hA0] at hD
  have hA : ∀ q : Nat, s.heap.size ≤ q → A0 q := fun q h => by rw [hA0]; exact Or.inr h
  have hS : va_S A0 s.heap s.heap [] := va_S.rf
  have hn := xseg_n hseg
  have hl := lv_entry ([.ref o, .int x]) (n := 3) (Nat.le_of_ble_eq_true rfl)
  rw [lg_entry_eq]
  generalize (lg_sl ([.ref o, .int x]) ++ List.replicate (3 - (lg_sl ([.ref o, .int x])).length) Slot.unset).toArray = ls at hl ⊢
  have hl : lv_has ls 3 [(0, .ref o), (1, .int x)] := hl
  refine lv_aload_n hx hb dX0_init_0 rfl (lv_at hl 0 rfl) ?_
  refine W.objInit hx hb hown (ht _ kml_RX0_1) (ht _ kim_objectInit) (ht _ kco_objectInit) rfl (by rw [hml]; exact hl.1) rfl dX0_init_1 (Nat.le_of_ble_eq_true rfl) (Nat.le_of_ble_eq_true rfl) ?_
  refine W.eq (g2 := F0 m 4 ls []) rfl ?_
  refine lv_aload_n hx hb dX0_init_4 rfl (lv_at hl 0 rfl) ?_
  refine lv_iload_n hx hb dX0_init_5 rfl (lv_at hl 1 rfl) ?_
  refine lv_bipush (v := 12) hx hb dX0_init_6 (by decide) ?_
  have tail : ∀ ls : Array Slot, lv_has ls 3 [(0, .ref o), (1, .int x)] → W p l e (headSpec (xw yX0_init cX0_init 3 none) ({ frames := 1, cells := 5, slots := 518, locals := 20 })).room s m ([.ref o, .int x] : List Value).toArray below meth c s.heap [] 0 (0) (MQ below (xk_C D [(o, .inr (0, [.int 0, .null, .null, .null, .null, .null, .int 0]))] o xc_T (fun A K => xc_W A K n (fun _ => 0) (fun _ => 0) (fun _ => 0) (xZ0 6) (xB0 6) 0)) ([.ref o, .int x] : List Value).toArray s 5 518 (va_A [(o, .inr (0, [.int 0, .null, .null, .null, .null, .null, .int 0]))] s.heap.size)) (F0 m 24 ls [.int (nI n), .ref o]) := by
    intro ls hl
    refine va_putF (D := D) (ci := 0) (v := .int (nI n)) (ty := .int) (C := RX0) (T := TX0) (N := 7) hx hb ht xin_X0 tyX0 tyX0_ok nmX0 hown hK hP hD hS 0 rfl rfl 0 (by decide) (ht _ kfl_RX0_9) (fun _ h9 => h9) rfl hin9 rfl (by decide +kernel) rfl rfl (Nat.le_of_ble_eq_true rfl) dX0_init_24 (fun H locs hP hD hS => ?_)
    have hP : va_P D xcl ([(o, .inr (0, [.int (nI n), .null, .null, .null, .null, .null, .int 0]))]) H := hP
    have hD : va_D A0 ([(o, .inr (0, [.int (nI n), .null, .null, .null, .null, .null, .int 0]))]) := hD
    refine lv_aload_n hx hb dX0_init_27 rfl (lv_at hl 0 rfl) ?_
    refine lv_aload_n hx hb dX0_init_28 rfl (lv_at hl 0 rfl) ?_
    refine va_get (D := D) (ci := 0) (v := .int (nI n)) (C := RX0) (T := TX0) (N := 7) hx hb ht xin_X0 hown hK hP 0 rfl rfl 0 (by decide) (ht _ kfl_RX0_9) (fun _ h9 => h9) rfl dX0_init_29 ?_
    refine va_newa (atype := .int) (N' := n) (ty := .int) (a0 := (n, .inl (fun _ => nI 0))) hx hb (ht _ kar_int) rfl hK hP hD hS hA (fun cA => by first | rfl | (rw [vp_cell_i, nI_0]; rfl)) (nI_pos (n := n) (by omega)) (nI_clamp (by omega)) (by simp [componentBytes]; try omega) (Nat.le_of_ble_eq_true rfl) (by show _ ≤ 518; omega) dX0_init_32 (fun q1 c1 H hK hP hD hS => ?_)
    have hP : va_P D xcl ([(o, .inr (0, [.int (nI n), .null, .null, .null, .null, .null, .int 0])), (q1, .inl (c1, n, .inl (fun _ => nI 0)))]) H := hP
    have hD : va_D A0 ([(o, .inr (0, [.int (nI n), .null, .null, .null, .null, .null, .int 0])), (q1, .inl (c1, n, .inl (fun _ => nI 0)))]) := hD
    refine va_putF (D := D) (ci := 0) (v := .ref q1) (ty := .array .int) (C := RX0) (T := TX0) (N := 7) hx hb ht xin_X0 tyX0 tyX0_ok nmX0 hown hK hP hD hS 0 rfl rfl 1 (by decide) (ht _ kfl_RX0_13) (fun _ h9 => h9) rfl hin9 rfl (by decide +kernel) rfl rfl (Nat.le_of_ble_eq_true rfl) dX0_init_34 (fun H locs hP hD hS => ?_)
    have hP : va_P D xcl ([(o, .inr (0, [.int (nI n), .ref q1, .null, .null, .null, .null, .int 0])), (q1, .inl (c1, n, .inl (fun _ => nI 0)))]) H := hP
    have hD : va_D A0 ([(o, .inr (0, [.int (nI n), .ref q1, .null, .null, .null, .null, .int 0])), (q1, .inl (c1, n, .inl (fun _ => nI 0)))]) := hD
    refine lv_aload_n hx hb dX0_init_37 rfl (lv_at hl 0 rfl) ?_
    refine lv_aload_n hx hb dX0_init_38 rfl (lv_at hl 0 rfl) ?_
    refine va_get (D := D) (ci := 0) (v := .int (nI n)) (C := RX0) (T := TX0) (N := 7) hx hb ht xin_X0 hown hK hP 0 rfl rfl 0 (by decide) (ht _ kfl_RX0_9) (fun _ h9 => h9) rfl dX0_init_39 ?_
    refine va_newa (atype := .int) (N' := n) (ty := .int) (a0 := (n, .inl (fun _ => nI 0))) hx hb (ht _ kar_int) rfl hK hP hD hS hA (fun cA => by first | rfl | (rw [vp_cell_i, nI_0]; rfl)) (nI_pos (n := n) (by omega)) (nI_clamp (by omega)) (by simp [componentBytes]; try omega) (Nat.le_of_ble_eq_true rfl) (by show _ ≤ 518; omega) dX0_init_42 (fun q2 c2 H hK hP hD hS => ?_)
    have hP : va_P D xcl ([(o, .inr (0, [.int (nI n), .ref q1, .null, .null, .null, .null, .int 0])), (q1, .inl (c1, n, .inl (fun _ => nI 0))), (q2, .inl (c2, n, .inl (fun _ => nI 0)))]) H := hP
    have hD : va_D A0 ([(o, .inr (0, [.int (nI n), .ref q1, .null, .null, .null, .null, .int 0])), (q1, .inl (c1, n, .inl (fun _ => nI 0))), (q2, .inl (c2, n, .inl (fun _ => nI 0)))]) := hD
    refine va_putF (D := D) (ci := 0) (v := .ref q2) (ty := .array .int) (C := RX0) (T := TX0) (N := 7) hx hb ht xin_X0 tyX0 tyX0_ok nmX0 hown hK hP hD hS 0 rfl rfl 2 (by decide) (ht _ kfl_RX0_17) (fun _ h9 => h9) rfl hin9 rfl (by decide +kernel) rfl rfl (Nat.le_of_ble_eq_true rfl) dX0_init_44 (fun H locs hP hD hS => ?_)
    have hP : va_P D xcl ([(o, .inr (0, [.int (nI n), .ref q1, .ref q2, .null, .null, .null, .int 0])), (q1, .inl (c1, n, .inl (fun _ => nI 0))), (q2, .inl (c2, n, .inl (fun _ => nI 0)))]) H := hP
    have hD : va_D A0 ([(o, .inr (0, [.int (nI n), .ref q1, .ref q2, .null, .null, .null, .int 0])), (q1, .inl (c1, n, .inl (fun _ => nI 0))), (q2, .inl (c2, n, .inl (fun _ => nI 0)))]) := hD
    refine lv_aload_n hx hb dX0_init_47 rfl (lv_at hl 0 rfl) ?_
    refine lv_aload_n hx hb dX0_init_48 rfl (lv_at hl 0 rfl) ?_
    refine va_get (D := D) (ci := 0) (v := .int (nI n)) (C := RX0) (T := TX0) (N := 7) hx hb ht xin_X0 hown hK hP 0 rfl rfl 0 (by decide) (ht _ kfl_RX0_9) (fun _ h9 => h9) rfl dX0_init_49 ?_
    refine va_newa (atype := .int) (N' := n) (ty := .int) (a0 := (n, .inl (fun _ => nI 0))) hx hb (ht _ kar_int) rfl hK hP hD hS hA (fun cA => by first | rfl | (rw [vp_cell_i, nI_0]; rfl)) (nI_pos (n := n) (by omega)) (nI_clamp (by omega)) (by simp [componentBytes]; try omega) (Nat.le_of_ble_eq_true rfl) (by show _ ≤ 518; omega) dX0_init_52 (fun q3 c3 H hK hP hD hS => ?_)
    have hP : va_P D xcl ([(o, .inr (0, [.int (nI n), .ref q1, .ref q2, .null, .null, .null, .int 0])), (q1, .inl (c1, n, .inl (fun _ => nI 0))), (q2, .inl (c2, n, .inl (fun _ => nI 0))), (q3, .inl (c3, n, .inl (fun _ => nI 0)))]) H := hP
    have hD : va_D A0 ([(o, .inr (0, [.int (nI n), .ref q1, .ref q2, .null, .null, .null, .int 0])), (q1, .inl (c1, n, .inl (fun _ => nI 0))), (q2, .inl (c2, n, .inl (fun _ => nI 0))), (q3, .inl (c3, n, .inl (fun _ => nI 0)))]) := hD
    refine va_putF (D := D) (ci := 0) (v := .ref q3) (ty := .array .int) (C := RX0) (T := TX0) (N := 7) hx hb ht xin_X0 tyX0 tyX0_ok nmX0 hown hK hP hD hS 0 rfl rfl 3 (by decide) (ht _ kfl_RX0_20) (fun _ h9 => h9) rfl hin9 rfl (by decide +kernel) rfl rfl (Nat.le_of_ble_eq_true rfl) dX0_init_54 (fun H locs hP hD hS => ?_)
    have hP : va_P D xcl ([(o, .inr (0, [.int (nI n), .ref q1, .ref q2, .ref q3, .null, .null, .int 0])), (q1, .inl (c1, n, .inl (fun _ => nI 0))), (q2, .inl (c2, n, .inl (fun _ => nI 0))), (q3, .inl (c3, n, .inl (fun _ => nI 0)))]) H := hP
    have hD : va_D A0 ([(o, .inr (0, [.int (nI n), .ref q1, .ref q2, .ref q3, .null, .null, .int 0])), (q1, .inl (c1, n, .inl (fun _ => nI 0))), (q2, .inl (c2, n, .inl (fun _ => nI 0))), (q3, .inl (c3, n, .inl (fun _ => nI 0)))]) := hD
    refine lv_aload_n hx hb dX0_init_57 rfl (lv_at hl 0 rfl) ?_
    refine lv_aload_n hx hb dX0_init_58 rfl (lv_at hl 0 rfl) ?_
    refine va_get (D := D) (ci := 0) (v := .int (nI n)) (C := RX0) (T := TX0) (N := 7) hx hb ht xin_X0 hown hK hP 0 rfl rfl 0 (by decide) (ht _ kfl_RX0_9) (fun _ h9 => h9) rfl dX0_init_59 ?_
    refine va_newa (atype := .boolean) (N' := n) (ty := .boolean) (a0 := (n, .inl (fun _ => xb false))) hx hb (ht _ kar_boolean) rfl hK hP hD hS hA (fun cA => by first | rfl | (rw [vp_cell_i, nI_0]; rfl)) (nI_pos (n := n) (by omega)) (nI_clamp (by omega)) (by simp [componentBytes]; try omega) (Nat.le_of_ble_eq_true rfl) (by show _ ≤ 518; omega) dX0_init_62 (fun q4 c4 H hK hP hD hS => ?_)
    have hP : va_P D xcl ([(o, .inr (0, [.int (nI n), .ref q1, .ref q2, .ref q3, .null, .null, .int 0])), (q1, .inl (c1, n, .inl (fun _ => nI 0))), (q2, .inl (c2, n, .inl (fun _ => nI 0))), (q3, .inl (c3, n, .inl (fun _ => nI 0))), (q4, .inl (c4, n, .inl (fun _ => xb false)))]) H := hP
    have hD : va_D A0 ([(o, .inr (0, [.int (nI n), .ref q1, .ref q2, .ref q3, .null, .null, .int 0])), (q1, .inl (c1, n, .inl (fun _ => nI 0))), (q2, .inl (c2, n, .inl (fun _ => nI 0))), (q3, .inl (c3, n, .inl (fun _ => nI 0))), (q4, .inl (c4, n, .inl (fun _ => xb false)))]) := hD
    refine va_putF (D := D) (ci := 0) (v := .ref q4) (ty := .array .boolean) (C := RX0) (T := TX0) (N := 7) hx hb ht xin_X0 tyX0 tyX0_ok nmX0 hown hK hP hD hS 0 rfl rfl 4 (by decide) (ht _ kfl_RX0_23) (fun _ h9 => h9) rfl hin9 rfl (by decide +kernel) rfl rfl (Nat.le_of_ble_eq_true rfl) dX0_init_64 (fun H locs hP hD hS => ?_)
    have hP : va_P D xcl ([(o, .inr (0, [.int (nI n), .ref q1, .ref q2, .ref q3, .ref q4, .null, .int 0])), (q1, .inl (c1, n, .inl (fun _ => nI 0))), (q2, .inl (c2, n, .inl (fun _ => nI 0))), (q3, .inl (c3, n, .inl (fun _ => nI 0))), (q4, .inl (c4, n, .inl (fun _ => xb false)))]) H := hP
    have hD : va_D A0 ([(o, .inr (0, [.int (nI n), .ref q1, .ref q2, .ref q3, .ref q4, .null, .int 0])), (q1, .inl (c1, n, .inl (fun _ => nI 0))), (q2, .inl (c2, n, .inl (fun _ => nI 0))), (q3, .inl (c3, n, .inl (fun _ => nI 0))), (q4, .inl (c4, n, .inl (fun _ => xb false)))]) := hD
    refine lv_aload_n hx hb dX0_init_67 rfl (lv_at hl 0 rfl) ?_
    refine lv_bipush (v := 6) hx hb dX0_init_68 (by decide) ?_
    refine va_newa (atype := .int) (N' := 6) (ty := .int) (a0 := (6, .inl (fun _ => nI 0))) hx hb (ht _ kar_int) rfl hK hP hD hS hA (fun cA => by first | rfl | (rw [vp_cell_i, nI_0]; rfl)) (by decide) rfl (by simp [componentBytes]; try omega) (Nat.le_of_ble_eq_true rfl) (by show _ ≤ 518; omega) dX0_init_70 (fun q5 c5 H hK hP hD hS => ?_)
    have hP : va_P D xcl ([(o, .inr (0, [.int (nI n), .ref q1, .ref q2, .ref q3, .ref q4, .null, .int 0])), (q1, .inl (c1, n, .inl (fun _ => nI 0))), (q2, .inl (c2, n, .inl (fun _ => nI 0))), (q3, .inl (c3, n, .inl (fun _ => nI 0))), (q4, .inl (c4, n, .inl (fun _ => xb false))), (q5, .inl (c5, 6, .inl (fun _ => nI 0)))]) H := hP
    have hD : va_D A0 ([(o, .inr (0, [.int (nI n), .ref q1, .ref q2, .ref q3, .ref q4, .null, .int 0])), (q1, .inl (c1, n, .inl (fun _ => nI 0))), (q2, .inl (c2, n, .inl (fun _ => nI 0))), (q3, .inl (c3, n, .inl (fun _ => nI 0))), (q4, .inl (c4, n, .inl (fun _ => xb false))), (q5, .inl (c5, 6, .inl (fun _ => nI 0)))]) := hD
    refine va_putF (D := D) (ci := 0) (v := .ref q5) (ty := .array .int) (C := RX0) (T := TX0) (N := 7) hx hb ht xin_X0 tyX0 tyX0_ok nmX0 hown hK hP hD hS 0 rfl rfl 5 (by decide) (ht _ kfl_RX0_27) (fun _ h9 => h9) rfl hin9 rfl (by decide +kernel) rfl rfl (Nat.le_of_ble_eq_true rfl) dX0_init_72 (fun H locs hP hD hS => ?_)
    have hP : va_P D xcl ([(o, .inr (0, [.int (nI n), .ref q1, .ref q2, .ref q3, .ref q4, .ref q5, .int 0])), (q1, .inl (c1, n, .inl (fun _ => nI 0))), (q2, .inl (c2, n, .inl (fun _ => nI 0))), (q3, .inl (c3, n, .inl (fun _ => nI 0))), (q4, .inl (c4, n, .inl (fun _ => xb false))), (q5, .inl (c5, 6, .inl (fun _ => nI 0)))]) H := hP
    have hD : va_D A0 ([(o, .inr (0, [.int (nI n), .ref q1, .ref q2, .ref q3, .ref q4, .ref q5, .int 0])), (q1, .inl (c1, n, .inl (fun _ => nI 0))), (q2, .inl (c2, n, .inl (fun _ => nI 0))), (q3, .inl (c3, n, .inl (fun _ => nI 0))), (q4, .inl (c4, n, .inl (fun _ => xb false))), (q5, .inl (c5, 6, .inl (fun _ => nI 0)))]) := hD
    refine lv_aload_n hx hb dX0_init_75 rfl (lv_at hl 0 rfl) ?_
    refine lv_iconst (v := 0) hx hb dX0_init_76 (by decide) ?_
    refine va_put (D := D) (ci := 0) (v := .int 0) (ty := .int) (C := RX0) (T := TX0) (N := 7) hx hb ht xin_X0 tyX0 tyX0_ok nmX0 hown hK hP hD hS 0 rfl rfl 6 (by decide) (ht _ kfl_RX0_30) (fun _ h9 => h9) rfl (by decide +kernel) rfl rfl (Nat.le_of_ble_eq_true rfl) dX0_init_77 (fun H locs hP hD hS => ?_)
    have hP : va_P D xcl ([(o, .inr (0, [.int (nI n), .ref q1, .ref q2, .ref q3, .ref q4, .ref q5, .int 0])), (q1, .inl (c1, n, .inl (fun _ => nI 0))), (q2, .inl (c2, n, .inl (fun _ => nI 0))), (q3, .inl (c3, n, .inl (fun _ => nI 0))), (q4, .inl (c4, n, .inl (fun _ => xb false))), (q5, .inl (c5, 6, .inl (fun _ => nI 0)))]) H := hP
    have hD : va_D A0 ([(o, .inr (0, [.int (nI n), .ref q1, .ref q2, .ref q3, .ref q4, .ref q5, .int 0])), (q1, .inl (c1, n, .inl (fun _ => nI 0))), (q2, .inl (c2, n, .inl (fun _ => nI 0))), (q3, .inl (c3, n, .inl (fun _ => nI 0))), (q4, .inl (c4, n, .inl (fun _ => xb false))), (q5, .inl (c5, 6, .inl (fun _ => nI 0)))]) := hD
    have hP : va_P D xcl (xc_W (xA6 o q1 q2 q3 q4 q5) (xA6 0 c1 c2 c3 c4 c5) n (fun _ => 0) (fun _ => 0) (fun _ => 0) (xZ0 0) (xB0 0) 0) H := hP
    have hD : va_D A0 (xc_W (xA6 o q1 q2 q3 q4 q5) (xA6 0 c1 c2 c3 c4 c5) n (fun _ => 0) (fun _ => 0) (fun _ => 0) (xZ0 0) (xB0 0) 0) := hD
    have hK : va_K D xcl (xc_T (xA6 0 c1 c2 c3 c4 c5)) s := hK
    refine W.widen (k := 5) (n := 518) (by omega) (by omega) ?_
    have loop : ∀ (f i : Nat) (H : Heap) (locs : List Loc), i ≤ 6 → 7 ≤ i + f → va_P D xcl (xc_W (xA6 o q1 q2 q3 q4 q5) (xA6 0 c1 c2 c3 c4 c5) n (fun _ => 0) (fun _ => 0) (fun _ => 0) (xZ0 i) (xB0 i) 0) H → va_D A0 (xc_W (xA6 o q1 q2 q3 q4 q5) (xA6 0 c1 c2 c3 c4 c5) n (fun _ => 0) (fun _ => 0) (fun _ => 0) (xZ0 i) (xB0 i) 0) → va_S A0 s.heap H locs → ∀ ls : Array Slot, lv_has ls 3 [(2, .int (nI i)), (0, .ref o), (1, .int x)] → W p l e (headSpec (xw yX0_init cX0_init 3 none) ({ frames := 1, cells := 5, slots := 518, locals := 20 })).room s m ([.ref o, .int x] : List Value).toArray below meth c H locs 5 (518) (MQ below (xk_C D [(o, .inr (0, [.int 0, .null, .null, .null, .null, .null, .int 0]))] o xc_T (fun A K => xc_W A K n (fun _ => 0) (fun _ => 0) (fun _ => 0) (xZ0 6) (xB0 6) 0)) ([.ref o, .int x] : List Value).toArray s 5 518 (va_A [(o, .inr (0, [.int 0, .null, .null, .null, .null, .null, .int 0]))] s.heap.size)) (F0 m 82 ls []) := by
      intro f
      induction f with
      | zero => intro i H locs h1 h2; exact absurd h2 (by omega)
      | succ f ih =>
        intro i H locs hi hf hP hD hS ls hl
        refine lv_iload_n hx hb dX0_init_82 rfl (lv_at hl 0 rfl) ?_
        refine lv_bipush (v := 6) hx hb dX0_init_83 (by decide) ?_
        refine lv_icmp_ge (tgt := 111) hx hb dX0_init_85 (by decide) (fun h1 => ?_) (fun h1 => ?_)
        · have hin : i = 6 := by
            rcases Nat.lt_or_ge i 6 with q | q
            · exact absurd h1 (nI_ge (b := 6) q (by decide))
            · omega
          subst hin
          exact W.vret hx hb hr (fun t ht hW => ⟨rfl, ⟨_, _, rfl, by rw [ht]; exact hP, va_K.moved hW.alike hK, by rw [← hA0]; exact hD⟩, by rw [← hA0]; exact hS.F ht⟩) (by rw [← hA0]; exact hS.2.2) dX0_init_111
        · have hin : i < 6 := by
            rcases Nat.lt_or_ge i 6 with q | q
            · exact q
            · exact absurd (nI_le (a := 6) q (by omega)) h1
          refine lv_aload_n hx hb dX0_init_88 rfl (lv_at hl 1 rfl) ?_
          refine va_get (D := D) (ci := 0) (v := .ref q5) (C := RX0) (T := TX0) (N := 7) hx hb ht xin_X0 hown hK hP 0 rfl rfl 5 (by decide) (ht _ kfl_RX0_27) (fun _ h9 => h9) rfl dX0_init_89 ?_
          refine lv_iload_n hx hb dX0_init_92 rfl (lv_at hl 0 rfl) ?_
          refine lv_iload_n hx hb dX0_init_93 rfl (lv_at hl 0 rfl) ?_
          refine xr_S (n := 1) (As := [.int (nI i)]) (rest := [.int (nI i), .ref q5]) ⟨hx, hb, hml, hown, ht⟩ (c_firstBlockOf l i) (xg_S kml_RX0_33 kst_yX0_firstBlockOf kin_RX0 kco_yX0_firstBlockOf) ⟨rfl, rfl⟩ (by decide +kernel) ⟨Nat.le_of_ble_eq_true rfl, Nat.le_of_ble_eq_true rfl⟩ xk_preE rfl hl.1 rfl (Nat.le_of_ble_eq_true rfl) dX0_init_94 ⟨Nat.le_of_ble_eq_true rfl, Nat.le_of_ble_eq_true rfl⟩ (fun r1 e1 => ?_)
          subst e1
          refine xa_ist hx hb hK hP hD hS 5 4 rfl rfl hin (by decide) (xu_n (xB0 i) i _) dX0_init_97 (fun H locs hP hD hS => ?_)
          have hP : va_P D xcl (xc_W (xA6 o q1 q2 q3 q4 q5) (xA6 0 c1 c2 c3 c4 c5) n (fun _ => 0) (fun _ => 0) (fun _ => 0) (xZ0 i) (xB0 (i + 1)) 0) H := hP
          have hD : va_D A0 (xc_W (xA6 o q1 q2 q3 q4 q5) (xA6 0 c1 c2 c3 c4 c5) n (fun _ => 0) (fun _ => 0) (fun _ => 0) (xZ0 i) (xB0 (i + 1)) 0) := hD
          refine lv_aload_n hx hb dX0_init_98 rfl (lv_at hl 1 rfl) ?_
          refine va_get (D := D) (ci := 0) (v := .ref q4) (C := RX0) (T := TX0) (N := 7) hx hb ht xin_X0 hown hK hP 0 rfl rfl 4 (by decide) (ht _ kfl_RX0_23) (fun _ h9 => h9) rfl dX0_init_99 ?_
          refine lv_iload_n hx hb dX0_init_102 rfl (lv_at hl 0 rfl) ?_
          refine lv_iconst (v := 1) hx hb dX0_init_103 (by decide) ?_
          refine xa_zst hx hb hK hP hD hS 4 3 rfl rfl (show i < n by omega) (by omega) (xu_z (xZ0 i) i true) dX0_init_104 (fun H locs hP hD hS => ?_)
          have hP : va_P D xcl (xc_W (xA6 o q1 q2 q3 q4 q5) (xA6 0 c1 c2 c3 c4 c5) n (fun _ => 0) (fun _ => 0) (fun _ => 0) (xZ0 (i + 1)) (xB0 (i + 1)) 0) H := hP
          have hD : va_D A0 (xc_W (xA6 o q1 q2 q3 q4 q5) (xA6 0 c1 c2 c3 c4 c5) n (fun _ => 0) (fun _ => 0) (fun _ => 0) (xZ0 (i + 1)) (xB0 (i + 1)) 0) := hD
          refine lv_iinc (v := nI (i + 1)) (lv' := [(2, .int (nI (i + 1))), (0, .ref o), (1, .int x)]) hx hb dX0_init_105 hl (k := 0) rfl (nI_1 i) (by decide) rfl (fun ls hl => ?_)
          refine lv_goto (tgt := 82) hx hb dX0_init_108 (by decide) ?_
          exact ih (i + 1) H locs (by omega) (by omega) hP hD hS ls (lv_sub hl [0, 1, 2] rfl)
    refine lv_iconst (v := 0) hx hb dX0_init_80 (by decide) ?_
    refine lv_istore_n (lv' := [(2, .int 0), (0, .ref o), (1, .int x)]) hx hb dX0_init_81 rfl hl (by decide) rfl (fun ls hl => ?_)
    exact loop 7 0 H locs (by omega) (by omega) hP hD hS ls (lv_sub hl [0, 1, 2] rfl)
  refine lv_icmp_lt (tgt := 18) hx hb dX0_init_8 (by decide) (fun h1 => ?_) (fun h1 => ?_)
  · have e : (12 : Int32) = nI n := by
      rcases hseg with ⟨g1, g2, rfl⟩ | ⟨rfl, -⟩
      · exact absurd h1 (nI_nlt (b := 12) g1 (by omega))
      · rfl
    refine lv_bipush (v := 12) hx hb dX0_init_18 (by decide) ?_
    refine lv_goto (tgt := 24) hx hb dX0_init_20 (by decide) ?_
    refine xa_top (y := nI n) e ?_
    exact tail ls (lv_sub hl [0, 1] rfl)
  · refine lv_iload_n hx hb dX0_init_11 rfl (lv_at hl 1 rfl) ?_
    refine lv_sipush (v := 128) hx hb dX0_init_12 (by decide) ?_
    refine lv_icmp_le (tgt := 23) hx hb dX0_init_15 (by decide) (fun h2 => ?_) (fun h2 => ?_)
    · have e : x = nI n := by
        rcases hseg with ⟨g1, g2, g3⟩ | ⟨-, g⟩
        · exact g3
        · rcases g with g | g
          · exact absurd g h1
          · exact absurd h2 g
      refine lv_iload_n hx hb dX0_init_23 rfl (lv_at hl 1 rfl) ?_
      refine xa_top (y := nI n) e ?_
      exact tail ls (lv_sub hl [0, 1] rfl)
    · have e : (12 : Int32) = nI n := by
        rcases hseg with ⟨g1, g2, rfl⟩ | ⟨rfl, -⟩
        · exact absurd (nI_le (b := 128) g2 (by omega)) h2
        · rfl
      refine lv_bipush (v := 12) hx hb dX0_init_18 (by decide) ?_
      refine lv_goto (tgt := 24) hx hb dX0_init_20 (by decide) ?_
      refine xa_top (y := nI n) e ?_
      exact tail ls (lv_sub hl [0, 1] rfl)

set_option maxHeartbeats 4000000 in
set_option maxRecDepth 100000 in
theorem m_init (l : Launch) (D : va_G) (o : Nat) (x : Int32) (n : Nat) (hseg : xseg x n) (sz : Nat) : Met l yX1_init (xw yX1_init cX1_init 3 none) ({ frames := 1, cells := 6, slots := 4364, locals := 12 }) (xk_M [.ref o, .int x] D [] [(o, .inr (1, [.int 0, .int 0, .null, .null, .null, .null, .null, .null, .int 0]))] sz) (xk_C D [(o, .inr (1, [.int 0, .int 0, .null, .null, .null, .null, .null, .null, .int 0]))] o xm_T (fun A K => xm_W A K 0 n (fun _ => false) (fun _ => false) (fun _ => false) (fun _ => 0) (xO0 6) (fun _ => 0) 0)) 6 4364 (va_A [(o, .inr (1, [.int 0, .int 0, .null, .null, .null, .null, .null, .null, .int 0]))] sz) := by
  refine Met.ofW (cc := cX1_init) (maxL := 3) (ret := none) (by decide) rfl ?_
  intro p e s m args below meth c s₁ B0 hml hv
  obtain ⟨rfl, hsz, hP, hK, hD0⟩ := hv
  have hx := B0.exec
  have hb := B0.bytes
  have hr := B0.returns
  have ht : ∀ w ∈ xT, w.before _ s = true := fun w h => atoms_spec (ws := xw yX1_init cX1_init 3 none) B0.pre w (List.mem_cons_of_mem _ h)
  have hown : s.vm.findClass RX1 = some m.cls := findClass_of_methodNamed B0.named
  have hlocks := B0.notSynchronized
  have hin9 : meth.name = "<init>" := (name_of_methodNamed B0.named B0.method).1
  subst hsz
  have hD := hD0.self (sz := s.heap.size)
  obtain ⟨A0, hA0⟩ : ∃ z, z = va_A [(o, .inr (1, [.int 0, .int 0, .null, .null, .null, .null, .null, .null, .int 0]))] s.heap.size := ⟨_, rfl⟩
  rw [← hA0] at hD
  have hA : ∀ q : Nat, s.heap.size ≤ q → A0 q := fun q h => by rw [hA0]; exact Or.inr h
  have hS : va_S A0 s.heap s.heap [] := va_S.rf
  have hn := xseg_n hseg
  have hl := lv_entry ([.ref o, .int x]) (n := 3) (Nat.le_of_ble_eq_true rfl)
  rw [lg_entry_eq]
  generalize (lg_sl ([.ref o, .int x]) ++ List.replicate (3 - (lg_sl ([.ref o, .int x])).length) Slot.unset).toArray = ls at hl ⊢
  have hl : lv_has ls 3 [(0, .ref o), (1, .int x)] := hl
  refine lv_aload_n hx hb dX1_init_0 rfl (lv_at hl 0 rfl) ?_
  refine W.objInit hx hb hown (ht _ kml_RX1_1) (ht _ kim_objectInit) (ht _ kco_objectInit) rfl (by rw [hml]; exact hl.1) rfl dX1_init_1 (Nat.le_of_ble_eq_true rfl) (Nat.le_of_ble_eq_true rfl) ?_
  refine W.eq (g2 := F0 m 4 ls []) rfl ?_
  refine lv_aload_n hx hb dX1_init_4 rfl (lv_at hl 0 rfl) ?_
  refine lv_sipush (v := 2048) hx hb dX1_init_5 (by decide) ?_
  refine va_newa (atype := .boolean) (N' := 2048) (ty := .boolean) (a0 := (2048, .inl (fun _ => xb false))) hx hb (ht _ kar_boolean) rfl hK hP hD hS hA (fun cA => by first | rfl | (rw [vp_cell_i, nI_0]; rfl)) (by decide) rfl (by simp [componentBytes]; try omega) (Nat.le_of_ble_eq_true rfl) (by show _ ≤ 4364; omega) dX1_init_8 (fun q1 c1 H hK hP hD hS => ?_)
  have hP : va_P D xcl ([(o, .inr (1, [.int 0, .int 0, .null, .null, .null, .null, .null, .null, .int 0])), (q1, .inl (c1, 2048, .inl (fun _ => xb false)))]) H := hP
  have hD : va_D A0 ([(o, .inr (1, [.int 0, .int 0, .null, .null, .null, .null, .null, .null, .int 0])), (q1, .inl (c1, 2048, .inl (fun _ => xb false)))]) := hD
  refine va_putF (D := D) (ci := 1) (v := .ref q1) (ty := .array .boolean) (C := RX1) (T := TX1) (N := 9) hx hb ht xin_X1 tyX1 tyX1_ok nmX1 hown hK hP hD hS 0 rfl rfl 2 (by decide) (ht _ kfl_RX1_7) (fun _ h9 => h9) rfl hin9 rfl (by decide +kernel) rfl rfl (Nat.le_of_ble_eq_true rfl) dX1_init_10 (fun H locs hP hD hS => ?_)
  have hP : va_P D xcl ([(o, .inr (1, [.int 0, .int 0, .ref q1, .null, .null, .null, .null, .null, .int 0])), (q1, .inl (c1, 2048, .inl (fun _ => xb false)))]) H := hP
  have hD : va_D A0 ([(o, .inr (1, [.int 0, .int 0, .ref q1, .null, .null, .null, .null, .null, .int 0])), (q1, .inl (c1, 2048, .inl (fun _ => xb false)))]) := hD
  refine lv_aload_n hx hb dX1_init_13 rfl (lv_at hl 0 rfl) ?_
  refine lv_sipush (v := 2048) hx hb dX1_init_14 (by decide) ?_
  refine va_newa (atype := .boolean) (N' := 2048) (ty := .boolean) (a0 := (2048, .inl (fun _ => xb false))) hx hb (ht _ kar_boolean) rfl hK hP hD hS hA (fun cA => by first | rfl | (rw [vp_cell_i, nI_0]; rfl)) (by decide) rfl (by simp [componentBytes]; try omega) (Nat.le_of_ble_eq_true rfl) (by show _ ≤ 4364; omega) dX1_init_17 (fun q2 c2 H hK hP hD hS => ?_)
  have hP : va_P D xcl ([(o, .inr (1, [.int 0, .int 0, .ref q1, .null, .null, .null, .null, .null, .int 0])), (q1, .inl (c1, 2048, .inl (fun _ => xb false))), (q2, .inl (c2, 2048, .inl (fun _ => xb false)))]) H := hP
  have hD : va_D A0 ([(o, .inr (1, [.int 0, .int 0, .ref q1, .null, .null, .null, .null, .null, .int 0])), (q1, .inl (c1, 2048, .inl (fun _ => xb false))), (q2, .inl (c2, 2048, .inl (fun _ => xb false)))]) := hD
  refine va_putF (D := D) (ci := 1) (v := .ref q2) (ty := .array .boolean) (C := RX1) (T := TX1) (N := 9) hx hb ht xin_X1 tyX1 tyX1_ok nmX1 hown hK hP hD hS 0 rfl rfl 3 (by decide) (ht _ kfl_RX1_13) (fun _ h9 => h9) rfl hin9 rfl (by decide +kernel) rfl rfl (Nat.le_of_ble_eq_true rfl) dX1_init_19 (fun H locs hP hD hS => ?_)
  have hP : va_P D xcl ([(o, .inr (1, [.int 0, .int 0, .ref q1, .ref q2, .null, .null, .null, .null, .int 0])), (q1, .inl (c1, 2048, .inl (fun _ => xb false))), (q2, .inl (c2, 2048, .inl (fun _ => xb false)))]) H := hP
  have hD : va_D A0 ([(o, .inr (1, [.int 0, .int 0, .ref q1, .ref q2, .null, .null, .null, .null, .int 0])), (q1, .inl (c1, 2048, .inl (fun _ => xb false))), (q2, .inl (c2, 2048, .inl (fun _ => xb false)))]) := hD
  refine lv_aload_n hx hb dX1_init_22 rfl (lv_at hl 0 rfl) ?_
  refine lv_sipush (v := 128) hx hb dX1_init_23 (by decide) ?_
  refine va_newa (atype := .boolean) (N' := 128) (ty := .boolean) (a0 := (128, .inl (fun _ => xb false))) hx hb (ht _ kar_boolean) rfl hK hP hD hS hA (fun cA => by first | rfl | (rw [vp_cell_i, nI_0]; rfl)) (by decide) rfl (by simp [componentBytes]; try omega) (Nat.le_of_ble_eq_true rfl) (by show _ ≤ 4364; omega) dX1_init_26 (fun q3 c3 H hK hP hD hS => ?_)
  have hP : va_P D xcl ([(o, .inr (1, [.int 0, .int 0, .ref q1, .ref q2, .null, .null, .null, .null, .int 0])), (q1, .inl (c1, 2048, .inl (fun _ => xb false))), (q2, .inl (c2, 2048, .inl (fun _ => xb false))), (q3, .inl (c3, 128, .inl (fun _ => xb false)))]) H := hP
  have hD : va_D A0 ([(o, .inr (1, [.int 0, .int 0, .ref q1, .ref q2, .null, .null, .null, .null, .int 0])), (q1, .inl (c1, 2048, .inl (fun _ => xb false))), (q2, .inl (c2, 2048, .inl (fun _ => xb false))), (q3, .inl (c3, 128, .inl (fun _ => xb false)))]) := hD
  refine va_putF (D := D) (ci := 1) (v := .ref q3) (ty := .array .boolean) (C := RX1) (T := TX1) (N := 9) hx hb ht xin_X1 tyX1 tyX1_ok nmX1 hown hK hP hD hS 0 rfl rfl 4 (by decide) (ht _ kfl_RX1_16) (fun _ h9 => h9) rfl hin9 rfl (by decide +kernel) rfl rfl (Nat.le_of_ble_eq_true rfl) dX1_init_28 (fun H locs hP hD hS => ?_)
  have hP : va_P D xcl ([(o, .inr (1, [.int 0, .int 0, .ref q1, .ref q2, .ref q3, .null, .null, .null, .int 0])), (q1, .inl (c1, 2048, .inl (fun _ => xb false))), (q2, .inl (c2, 2048, .inl (fun _ => xb false))), (q3, .inl (c3, 128, .inl (fun _ => xb false)))]) H := hP
  have hD : va_D A0 ([(o, .inr (1, [.int 0, .int 0, .ref q1, .ref q2, .ref q3, .null, .null, .null, .int 0])), (q1, .inl (c1, 2048, .inl (fun _ => xb false))), (q2, .inl (c2, 2048, .inl (fun _ => xb false))), (q3, .inl (c3, 128, .inl (fun _ => xb false)))]) := hD
  refine lv_aload_n hx hb dX1_init_31 rfl (lv_at hl 0 rfl) ?_
  refine lv_sipush (v := 128) hx hb dX1_init_32 (by decide) ?_
  refine va_newa (atype := .int) (N' := 128) (ty := .int) (a0 := (128, .inl (fun _ => nI 0))) hx hb (ht _ kar_int) rfl hK hP hD hS hA (fun cA => by first | rfl | (rw [vp_cell_i, nI_0]; rfl)) (by decide) rfl (by simp [componentBytes]; try omega) (Nat.le_of_ble_eq_true rfl) (by show _ ≤ 4364; omega) dX1_init_35 (fun q4 c4 H hK hP hD hS => ?_)
  have hP : va_P D xcl ([(o, .inr (1, [.int 0, .int 0, .ref q1, .ref q2, .ref q3, .null, .null, .null, .int 0])), (q1, .inl (c1, 2048, .inl (fun _ => xb false))), (q2, .inl (c2, 2048, .inl (fun _ => xb false))), (q3, .inl (c3, 128, .inl (fun _ => xb false))), (q4, .inl (c4, 128, .inl (fun _ => nI 0)))]) H := hP
  have hD : va_D A0 ([(o, .inr (1, [.int 0, .int 0, .ref q1, .ref q2, .ref q3, .null, .null, .null, .int 0])), (q1, .inl (c1, 2048, .inl (fun _ => xb false))), (q2, .inl (c2, 2048, .inl (fun _ => xb false))), (q3, .inl (c3, 128, .inl (fun _ => xb false))), (q4, .inl (c4, 128, .inl (fun _ => nI 0)))]) := hD
  refine va_putF (D := D) (ci := 1) (v := .ref q4) (ty := .array .int) (C := RX1) (T := TX1) (N := 9) hx hb ht xin_X1 tyX1 tyX1_ok nmX1 hown hK hP hD hS 0 rfl rfl 5 (by decide) (ht _ kfl_RX1_19) (fun _ h9 => h9) rfl hin9 rfl (by decide +kernel) rfl rfl (Nat.le_of_ble_eq_true rfl) dX1_init_37 (fun H locs hP hD hS => ?_)
  have hP : va_P D xcl ([(o, .inr (1, [.int 0, .int 0, .ref q1, .ref q2, .ref q3, .ref q4, .null, .null, .int 0])), (q1, .inl (c1, 2048, .inl (fun _ => xb false))), (q2, .inl (c2, 2048, .inl (fun _ => xb false))), (q3, .inl (c3, 128, .inl (fun _ => xb false))), (q4, .inl (c4, 128, .inl (fun _ => nI 0)))]) H := hP
  have hD : va_D A0 ([(o, .inr (1, [.int 0, .int 0, .ref q1, .ref q2, .ref q3, .ref q4, .null, .null, .int 0])), (q1, .inl (c1, 2048, .inl (fun _ => xb false))), (q2, .inl (c2, 2048, .inl (fun _ => xb false))), (q3, .inl (c3, 128, .inl (fun _ => xb false))), (q4, .inl (c4, 128, .inl (fun _ => nI 0)))]) := hD
  refine lv_aload_n hx hb dX1_init_40 rfl (lv_at hl 0 rfl) ?_
  refine lv_bipush (v := 6) hx hb dX1_init_41 (by decide) ?_
  refine va_newa (atype := .int) (N' := 6) (ty := .int) (a0 := (6, .inl (fun _ => nI 0))) hx hb (ht _ kar_int) rfl hK hP hD hS hA (fun cA => by first | rfl | (rw [vp_cell_i, nI_0]; rfl)) (by decide) rfl (by simp [componentBytes]; try omega) (Nat.le_of_ble_eq_true rfl) (by show _ ≤ 4364; omega) dX1_init_43 (fun q5 c5 H hK hP hD hS => ?_)
  have hP : va_P D xcl ([(o, .inr (1, [.int 0, .int 0, .ref q1, .ref q2, .ref q3, .ref q4, .null, .null, .int 0])), (q1, .inl (c1, 2048, .inl (fun _ => xb false))), (q2, .inl (c2, 2048, .inl (fun _ => xb false))), (q3, .inl (c3, 128, .inl (fun _ => xb false))), (q4, .inl (c4, 128, .inl (fun _ => nI 0))), (q5, .inl (c5, 6, .inl (fun _ => nI 0)))]) H := hP
  have hD : va_D A0 ([(o, .inr (1, [.int 0, .int 0, .ref q1, .ref q2, .ref q3, .ref q4, .null, .null, .int 0])), (q1, .inl (c1, 2048, .inl (fun _ => xb false))), (q2, .inl (c2, 2048, .inl (fun _ => xb false))), (q3, .inl (c3, 128, .inl (fun _ => xb false))), (q4, .inl (c4, 128, .inl (fun _ => nI 0))), (q5, .inl (c5, 6, .inl (fun _ => nI 0)))]) := hD
  refine va_putF (D := D) (ci := 1) (v := .ref q5) (ty := .array .int) (C := RX1) (T := TX1) (N := 9) hx hb ht xin_X1 tyX1 tyX1_ok nmX1 hown hK hP hD hS 0 rfl rfl 6 (by decide) (ht _ kfl_RX1_23) (fun _ h9 => h9) rfl hin9 rfl (by decide +kernel) rfl rfl (Nat.le_of_ble_eq_true rfl) dX1_init_45 (fun H locs hP hD hS => ?_)
  have hP : va_P D xcl ([(o, .inr (1, [.int 0, .int 0, .ref q1, .ref q2, .ref q3, .ref q4, .ref q5, .null, .int 0])), (q1, .inl (c1, 2048, .inl (fun _ => xb false))), (q2, .inl (c2, 2048, .inl (fun _ => xb false))), (q3, .inl (c3, 128, .inl (fun _ => xb false))), (q4, .inl (c4, 128, .inl (fun _ => nI 0))), (q5, .inl (c5, 6, .inl (fun _ => nI 0)))]) H := hP
  have hD : va_D A0 ([(o, .inr (1, [.int 0, .int 0, .ref q1, .ref q2, .ref q3, .ref q4, .ref q5, .null, .int 0])), (q1, .inl (c1, 2048, .inl (fun _ => xb false))), (q2, .inl (c2, 2048, .inl (fun _ => xb false))), (q3, .inl (c3, 128, .inl (fun _ => xb false))), (q4, .inl (c4, 128, .inl (fun _ => nI 0))), (q5, .inl (c5, 6, .inl (fun _ => nI 0)))]) := hD
  refine lv_aload_n hx hb dX1_init_48 rfl (lv_at hl 0 rfl) ?_
  refine lv_bipush (v := 6) hx hb dX1_init_49 (by decide) ?_
  refine va_newa (atype := .int) (N' := 6) (ty := .int) (a0 := (6, .inl (fun _ => nI 0))) hx hb (ht _ kar_int) rfl hK hP hD hS hA (fun cA => by first | rfl | (rw [vp_cell_i, nI_0]; rfl)) (by decide) rfl (by simp [componentBytes]; try omega) (Nat.le_of_ble_eq_true rfl) (by show _ ≤ 4364; omega) dX1_init_51 (fun q6 c6 H hK hP hD hS => ?_)
  have hP : va_P D xcl ([(o, .inr (1, [.int 0, .int 0, .ref q1, .ref q2, .ref q3, .ref q4, .ref q5, .null, .int 0])), (q1, .inl (c1, 2048, .inl (fun _ => xb false))), (q2, .inl (c2, 2048, .inl (fun _ => xb false))), (q3, .inl (c3, 128, .inl (fun _ => xb false))), (q4, .inl (c4, 128, .inl (fun _ => nI 0))), (q5, .inl (c5, 6, .inl (fun _ => nI 0))), (q6, .inl (c6, 6, .inl (fun _ => nI 0)))]) H := hP
  have hD : va_D A0 ([(o, .inr (1, [.int 0, .int 0, .ref q1, .ref q2, .ref q3, .ref q4, .ref q5, .null, .int 0])), (q1, .inl (c1, 2048, .inl (fun _ => xb false))), (q2, .inl (c2, 2048, .inl (fun _ => xb false))), (q3, .inl (c3, 128, .inl (fun _ => xb false))), (q4, .inl (c4, 128, .inl (fun _ => nI 0))), (q5, .inl (c5, 6, .inl (fun _ => nI 0))), (q6, .inl (c6, 6, .inl (fun _ => nI 0)))]) := hD
  refine va_putF (D := D) (ci := 1) (v := .ref q6) (ty := .array .int) (C := RX1) (T := TX1) (N := 9) hx hb ht xin_X1 tyX1 tyX1_ok nmX1 hown hK hP hD hS 0 rfl rfl 7 (by decide) (ht _ kfl_RX1_26) (fun _ h9 => h9) rfl hin9 rfl (by decide +kernel) rfl rfl (Nat.le_of_ble_eq_true rfl) dX1_init_53 (fun H locs hP hD hS => ?_)
  have hP : va_P D xcl ([(o, .inr (1, [.int 0, .int 0, .ref q1, .ref q2, .ref q3, .ref q4, .ref q5, .ref q6, .int 0])), (q1, .inl (c1, 2048, .inl (fun _ => xb false))), (q2, .inl (c2, 2048, .inl (fun _ => xb false))), (q3, .inl (c3, 128, .inl (fun _ => xb false))), (q4, .inl (c4, 128, .inl (fun _ => nI 0))), (q5, .inl (c5, 6, .inl (fun _ => nI 0))), (q6, .inl (c6, 6, .inl (fun _ => nI 0)))]) H := hP
  have hD : va_D A0 ([(o, .inr (1, [.int 0, .int 0, .ref q1, .ref q2, .ref q3, .ref q4, .ref q5, .ref q6, .int 0])), (q1, .inl (c1, 2048, .inl (fun _ => xb false))), (q2, .inl (c2, 2048, .inl (fun _ => xb false))), (q3, .inl (c3, 128, .inl (fun _ => xb false))), (q4, .inl (c4, 128, .inl (fun _ => nI 0))), (q5, .inl (c5, 6, .inl (fun _ => nI 0))), (q6, .inl (c6, 6, .inl (fun _ => nI 0)))]) := hD
  refine lv_aload_n hx hb dX1_init_56 rfl (lv_at hl 0 rfl) ?_
  refine lv_iload_n hx hb dX1_init_57 rfl (lv_at hl 1 rfl) ?_
  refine lv_bipush (v := 12) hx hb dX1_init_58 (by decide) ?_
  have tail : ∀ ls : Array Slot, lv_has ls 3 [(0, .ref o), (1, .int x)] → W p l e (headSpec (xw yX1_init cX1_init 3 none) ({ frames := 1, cells := 6, slots := 4364, locals := 12 })).room s m ([.ref o, .int x] : List Value).toArray below meth c H locs 6 (0 + 2048 + 2048 + 128 + 128 + 6 + 6) (MQ below (xk_C D [(o, .inr (1, [.int 0, .int 0, .null, .null, .null, .null, .null, .null, .int 0]))] o xm_T (fun A K => xm_W A K 0 n (fun _ => false) (fun _ => false) (fun _ => false) (fun _ => 0) (xO0 6) (fun _ => 0) 0)) ([.ref o, .int x] : List Value).toArray s 6 4364 (va_A [(o, .inr (1, [.int 0, .int 0, .null, .null, .null, .null, .null, .null, .int 0]))] s.heap.size)) (F0 m 76 ls [.int (nI n), .ref o]) := by
    intro ls hl
    refine va_putF (D := D) (ci := 1) (v := .int (nI n)) (ty := .int) (C := RX1) (T := TX1) (N := 9) hx hb ht xin_X1 tyX1 tyX1_ok nmX1 hown hK hP hD hS 0 rfl rfl 1 (by decide) (ht _ kfl_RX1_29) (fun _ h9 => h9) rfl hin9 rfl (by decide +kernel) rfl rfl (Nat.le_of_ble_eq_true rfl) dX1_init_76 (fun H locs hP hD hS => ?_)
    have hP : va_P D xcl ([(o, .inr (1, [.int 0, .int (nI n), .ref q1, .ref q2, .ref q3, .ref q4, .ref q5, .ref q6, .int 0])), (q1, .inl (c1, 2048, .inl (fun _ => xb false))), (q2, .inl (c2, 2048, .inl (fun _ => xb false))), (q3, .inl (c3, 128, .inl (fun _ => xb false))), (q4, .inl (c4, 128, .inl (fun _ => nI 0))), (q5, .inl (c5, 6, .inl (fun _ => nI 0))), (q6, .inl (c6, 6, .inl (fun _ => nI 0)))]) H := hP
    have hD : va_D A0 ([(o, .inr (1, [.int 0, .int (nI n), .ref q1, .ref q2, .ref q3, .ref q4, .ref q5, .ref q6, .int 0])), (q1, .inl (c1, 2048, .inl (fun _ => xb false))), (q2, .inl (c2, 2048, .inl (fun _ => xb false))), (q3, .inl (c3, 128, .inl (fun _ => xb false))), (q4, .inl (c4, 128, .inl (fun _ => nI 0))), (q5, .inl (c5, 6, .inl (fun _ => nI 0))), (q6, .inl (c6, 6, .inl (fun _ => nI 0)))]) := hD
    have hP : va_P D xcl (xm_W (xA7 o q1 q2 q3 q4 q5 q6) (xA7 0 c1 c2 c3 c4 c5 c6) 0 n (fun _ => false) (fun _ => false) (fun _ => false) (fun _ => 0) (xO0 0) (fun _ => 0) 0) H := hP
    have hD : va_D A0 (xm_W (xA7 o q1 q2 q3 q4 q5 q6) (xA7 0 c1 c2 c3 c4 c5 c6) 0 n (fun _ => false) (fun _ => false) (fun _ => false) (fun _ => 0) (xO0 0) (fun _ => 0) 0) := hD
    have hK : va_K D xcl (xm_T (xA7 0 c1 c2 c3 c4 c5 c6)) s := hK
    refine W.widen (k := 6) (n := 4364) (by omega) (by omega) ?_
    have loop : ∀ (f i : Nat) (H : Heap) (locs : List Loc), i ≤ 6 → 7 ≤ i + f → va_P D xcl (xm_W (xA7 o q1 q2 q3 q4 q5 q6) (xA7 0 c1 c2 c3 c4 c5 c6) 0 n (fun _ => false) (fun _ => false) (fun _ => false) (fun _ => 0) (xO0 i) (fun _ => 0) 0) H → va_D A0 (xm_W (xA7 o q1 q2 q3 q4 q5 q6) (xA7 0 c1 c2 c3 c4 c5 c6) 0 n (fun _ => false) (fun _ => false) (fun _ => false) (fun _ => 0) (xO0 i) (fun _ => 0) 0) → va_S A0 s.heap H locs → ∀ ls : Array Slot, lv_has ls 3 [(2, .int (nI i)), (0, .ref o), (1, .int x)] → W p l e (headSpec (xw yX1_init cX1_init 3 none) ({ frames := 1, cells := 6, slots := 4364, locals := 12 })).room s m ([.ref o, .int x] : List Value).toArray below meth c H locs 6 (4364) (MQ below (xk_C D [(o, .inr (1, [.int 0, .int 0, .null, .null, .null, .null, .null, .null, .int 0]))] o xm_T (fun A K => xm_W A K 0 n (fun _ => false) (fun _ => false) (fun _ => false) (fun _ => 0) (xO0 6) (fun _ => 0) 0)) ([.ref o, .int x] : List Value).toArray s 6 4364 (va_A [(o, .inr (1, [.int 0, .int 0, .null, .null, .null, .null, .null, .null, .int 0]))] s.heap.size)) (F0 m 81 ls []) := by
      intro f
      induction f with
      | zero => intro i H locs h1 h2; exact absurd h2 (by omega)
      | succ f ih =>
        intro i H locs hi hf hP hD hS ls hl
        refine lv_iload_n hx hb dX1_init_81 rfl (lv_at hl 0 rfl) ?_
        refine lv_bipush (v := 6) hx hb dX1_init_82 (by decide) ?_
        refine lv_icmp_ge (tgt := 100) hx hb dX1_init_84 (by decide) (fun h1 => ?_) (fun h1 => ?_)
        · have hin : i = 6 := by
            rcases Nat.lt_or_ge i 6 with q | q
            · exact absurd h1 (nI_ge (b := 6) q (by decide))
            · omega
          subst hin
          exact W.vret hx hb hr (fun t ht hW => ⟨rfl, ⟨_, _, rfl, by rw [ht]; exact hP, va_K.moved hW.alike hK, by rw [← hA0]; exact hD⟩, by rw [← hA0]; exact hS.F ht⟩) (by rw [← hA0]; exact hS.2.2) dX1_init_100
        · have hin : i < 6 := by
            rcases Nat.lt_or_ge i 6 with q | q
            · exact q
            · exact absurd (nI_le (a := 6) q (by omega)) h1
          refine lv_aload_n hx hb dX1_init_87 rfl (lv_at hl 1 rfl) ?_
          refine va_get (D := D) (ci := 1) (v := .ref q5) (C := RX1) (T := TX1) (N := 9) hx hb ht xin_X1 hown hK hP 0 rfl rfl 6 (by decide) (ht _ kfl_RX1_23) (fun _ h9 => h9) rfl dX1_init_88 ?_
          refine lv_iload_n hx hb dX1_init_91 rfl (lv_at hl 0 rfl) ?_
          refine lv_iload_n hx hb dX1_init_92 rfl (lv_at hl 0 rfl) ?_
          refine xa_ist hx hb hK hP hD hS 5 4 rfl rfl hin (by decide) (xu_n (xO0 i) i i) dX1_init_93 (fun H locs hP hD hS => ?_)
          have hP : va_P D xcl (xm_W (xA7 o q1 q2 q3 q4 q5 q6) (xA7 0 c1 c2 c3 c4 c5 c6) 0 n (fun _ => false) (fun _ => false) (fun _ => false) (fun _ => 0) (xO0 (i + 1)) (fun _ => 0) 0) H := hP
          have hD : va_D A0 (xm_W (xA7 o q1 q2 q3 q4 q5 q6) (xA7 0 c1 c2 c3 c4 c5 c6) 0 n (fun _ => false) (fun _ => false) (fun _ => false) (fun _ => 0) (xO0 (i + 1)) (fun _ => 0) 0) := hD
          refine lv_iinc (v := nI (i + 1)) (lv' := [(2, .int (nI (i + 1))), (0, .ref o), (1, .int x)]) hx hb dX1_init_94 hl (k := 0) rfl (nI_1 i) (by decide) rfl (fun ls hl => ?_)
          refine lv_goto (tgt := 81) hx hb dX1_init_97 (by decide) ?_
          exact ih (i + 1) H locs (by omega) (by omega) hP hD hS ls (lv_sub hl [0, 1, 2] rfl)
    refine lv_iconst (v := 0) hx hb dX1_init_79 (by decide) ?_
    refine lv_istore_n (lv' := [(2, .int 0), (0, .ref o), (1, .int x)]) hx hb dX1_init_80 rfl hl (by decide) rfl (fun ls hl => ?_)
    exact loop 7 0 H locs (by omega) (by omega) hP hD hS ls (lv_sub hl [0, 1, 2] rfl)
  refine lv_icmp_lt (tgt := 70) hx hb dX1_init_60 (by decide) (fun h1 => ?_) (fun h1 => ?_)
  · have e : (12 : Int32) = nI n := by
      rcases hseg with ⟨g1, g2, rfl⟩ | ⟨rfl, -⟩
      · exact absurd h1 (nI_nlt (b := 12) g1 (by omega))
      · rfl
    refine lv_bipush (v := 12) hx hb dX1_init_70 (by decide) ?_
    refine lv_goto (tgt := 76) hx hb dX1_init_72 (by decide) ?_
    refine xa_top (y := nI n) e ?_
    exact tail ls (lv_sub hl [0, 1] rfl)
  · refine lv_iload_n hx hb dX1_init_63 rfl (lv_at hl 1 rfl) ?_
    refine lv_sipush (v := 128) hx hb dX1_init_64 (by decide) ?_
    refine lv_icmp_le (tgt := 75) hx hb dX1_init_67 (by decide) (fun h2 => ?_) (fun h2 => ?_)
    · have e : x = nI n := by
        rcases hseg with ⟨g1, g2, g3⟩ | ⟨-, g⟩
        · exact g3
        · rcases g with g | g
          · exact absurd g h1
          · exact absurd h2 g
      refine lv_iload_n hx hb dX1_init_75 rfl (lv_at hl 1 rfl) ?_
      refine xa_top (y := nI n) e ?_
      exact tail ls (lv_sub hl [0, 1] rfl)
    · have e : (12 : Int32) = nI n := by
        rcases hseg with ⟨g1, g2, rfl⟩ | ⟨rfl, -⟩
        · exact absurd (nI_le (b := 128) g2 (by omega)) h2
        · rfl
      refine lv_bipush (v := 12) hx hb dX1_init_70 (by decide) ?_
      refine lv_goto (tgt := 76) hx hb dX1_init_72 (by decide) ?_
      refine xa_top (y := nI n) e ?_
      exact tail ls (lv_sub hl [0, 1] rfl)
