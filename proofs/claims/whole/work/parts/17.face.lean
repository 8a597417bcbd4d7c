theorem xand2 (M k : Nat) : M &&& 2 ^ k = (M.testBit k).toNat * 2 ^ k := by
  apply Nat.eq_of_testBit_eq
  intro i
  rw [Nat.testBit_and, Nat.testBit_two_pow]
  by_cases e : k = i
  · subst e
    cases h : M.testBit k <;> simp [Nat.testBit_two_pow]
  · cases h : M.testBit k <;> simp [Nat.testBit_two_pow, e]
theorem xtb {M k : Nat} : nI M &&& nI (2 ^ k) = nI ((M.testBit k).toNat * 2 ^ k) := by rw [xand, xand2]
theorem xtb_lt {M k : Nat} (h : M < 65536) : (M.testBit k).toNat * 2 ^ k < 65536 := by
  rw [← xand2]
  exact Nat.lt_of_le_of_lt Nat.and_le_left h
theorem xtb0 {M k : Nat} (h : M < 65536) : nI M &&& nI (2 ^ k) = 0 ↔ M.testBit k = false := by
  rw [xtb, nI_0iff (xtb_lt h)]
  cases M.testBit k
  · simp
  · simp
theorem xtb1 {M k : Nat} (h : M < 65536) : ¬ nI M &&& nI (2 ^ k) = 0 ↔ M.testBit k = true := by
  rw [xtb0 h]; cases M.testBit k <;> simp
theorem xclr0 : ∀ k, k < 16 → (65535 : Int32) &&& (nI (2 ^ k) ^^^ (-1)) = nI (65535 ^^^ 2 ^ k) := by decide +kernel
theorem xclr {M k : Nat} (h : M < 65536) (hk : k < 16) : nI M &&& (nI (2 ^ k) ^^^ (-1)) = nI (M &&& (65535 ^^^ 2 ^ k)) := by
  have e : nI M = nI M &&& (65535 : Int32) := by
    rw [show (65535 : Int32) = nI 65535 from rfl, xand]
    congr 1
    exact (Nat.and_two_pow_sub_one_of_lt_two_pow (n := 16) h).symm
  rw [e, Int32.and_assoc, xclr0 k hk, xand]
def xlk (U TH AG : Nat → Nat) (Z : Nat → Bool) (j : Nat) : Nat → Int32
  | 0 => nI (U j)
  | 1 => nI (TH j)
  | 2 => nI (AG j)
  | _ => xb (Z j)
theorem xout {y : Int32} (h : ¬ ∃ v : Nat, v < 4 ∧ y = nI v) : y.toInt < 0 ∨ 3 < y.toInt := by
  rcases pk_ix y (n := 4) (by decide) with q | q | q
  · exact Or.inl (by rw [Int32.lt_iff_toInt_lt] at q; exact q)
  · refine Or.inr ?_
    rw [Int32.le_iff_toInt_le] at q
    have : (nI 4).toInt = 4 := by decide
    omega
  · exact absurd q h
set_option maxHeartbeats 4000000 in
set_option maxRecDepth 100000 in
/-- next -/
theorem c_next_ok (l : Launch) (D : va_G) (A : Nat → Nat) (K : Nat → ClassId) (n : Nat) (U TH AG : Nat → Nat) (Z : Nat → Bool) (B : Nat → Nat) (TK : Nat) (q : Nat) (hq : q < 6) : Met l yX0_next (xw yX0_next cX0_next 2 (some .int)) ({ frames := 1, cells := 0, slots := 0, locals := 20 }) (xk_P [.ref (A 0), .int (nI q)] D (xc_T K) (xc_W A K n U TH AG Z B TK)) (vp_Si (fun r => r = nI (B q))) 0 0 (fun _ => False) := by
  refine Met.ofW (cc := cX0_next) (maxL := 2) (ret := (some .int)) (by decide) rfl ?_
  intro p e s m args below meth c s₁ B0 hml hv
  obtain ⟨rfl, hP, hK⟩ := hv
  have hx := B0.exec
  have hb := B0.bytes
  have hr := B0.returns
  have ht : ∀ w ∈ xT, w.before _ s = true := fun w h => atoms_spec (ws := xw yX0_next cX0_next 2 (some .int)) B0.pre w (List.mem_cons_of_mem _ h)
  have hown : s.vm.findClass RX0 = some m.cls := findClass_of_methodNamed B0.named
  have hlocks := B0.notSynchronized
  have hl := lv_entry ([.ref (A 0), .int (nI q)]) (n := 2) (Nat.le_of_ble_eq_true rfl)
  rw [lg_entry_eq]
  generalize (lg_sl ([.ref (A 0), .int (nI q)]) ++ List.replicate (2 - (lg_sl ([.ref (A 0), .int (nI q)])).length) Slot.unset).toArray = ls at hl ⊢
  have hl : lv_has ls 2 [(0, .ref (A 0)), (1, .int (nI q))] := hl
  refine lv_iload_n hx hb dX0_next_0 rfl (lv_at hl 1 rfl) ?_
  refine xr_S (n := 1) (As := [.int (nI q)]) (rest := []) ⟨hx, hb, hml, hown, ht⟩ (c_isLog l (nI q)) (xg_S kml_RX0_37 kst_yX0_isLog kin_RX0 kco_yX0_isLog) ⟨rfl, rfl⟩ (by decide +kernel) ⟨Nat.le_of_ble_eq_true rfl, Nat.le_of_ble_eq_true rfl⟩ xk_preE rfl hl.1 rfl (Nat.le_of_ble_eq_true rfl) dX0_next_1 ⟨Nat.zero_le _, Nat.zero_le _⟩ (fun r1 e1 => ?_)
  have e1 : r1 = 1 := e1.elim (fun z => z.choose_spec.2.2) (fun z => absurd ⟨q, hq, rfl⟩ z.1)
  subst e1
  refine lv_if_ne (tgt := 17) hx hb dX0_next_4 (by decide) (fun h0 => ?_) (fun h0 => ?_)
  · refine lv_aload_n hx hb dX0_next_17 rfl (lv_at hl 0 rfl) ?_
    refine va_get (D := D) (ci := 0) (v := .ref (A 5)) (C := RX0) (T := TX0) (N := 7) hx hb ht xin_X0 hown hK hP 0 rfl rfl 5 (by decide) (ht _ kfl_RX0_27) (fun _ h9 => h9) rfl dX0_next_18 ?_
    refine lv_iload_n hx hb dX0_next_21 rfl (lv_at hl 1 rfl) ?_
    refine xa_ild hx hb hK hP 5 4 rfl rfl (v := nI (B q)) hq (by decide) rfl dX0_next_22 ?_
    exact W.iret (v := nI (B q)) hx hb hr (fun t ht hW => ⟨nI (B q), rfl, rfl, ht⟩) (fun _ h => by cases h) dX0_next_23
  · exact absurd h0 (by decide)

set_option maxHeartbeats 4000000 in
set_option maxRecDepth 100000 in
/-- next: no such log -/
theorem c_next_bad (l : Launch) (D : va_G) (A : Nat → Nat) (K : Nat → ClassId) (n : Nat) (U TH AG : Nat → Nat) (Z : Nat → Bool) (B : Nat → Nat) (TK : Nat) (x : Int32) (hbad : ¬ ∃ j : Nat, j < 6 ∧ x = nI j) (sz0 : Nat) (sa : Nat → Nat) (hl0 : l.stackTraces = false) : vx_Met l yX0_next (xw yX0_next cX0_next 2 (some .int)) ({ frames := 6, cells := 1, slots := 6, locals := 90 }) (xk_X [.ref (A 0), .int x] D (xc_T K) (xc_W A K n U TH AG Z B TK) sz0 sa) xt_i (xt_X xIA) 1 6 (fun _ => False) := by
  refine vx_ofW (cc := cX0_next) (maxL := 2) (ret := (some .int)) (by decide) rfl ?_
  intro p e s m args below meth c s₁ B0 hml hout hv
  obtain ⟨rfl, hP, hK, hX⟩ := hv
  obtain ⟨hXU, hXV, hXN, hs0, hs1, hs2, hs3, hs4, hs5, -⟩ := id hX
  have hx := B0.exec
  have hb := B0.bytes
  have hr := B0.returns
  have ht : ∀ w ∈ xT, w.before _ s = true := fun w h => atoms_spec (ws := xw yX0_next cX0_next 2 (some .int)) B0.pre w (List.mem_cons_of_mem _ h)
  have hown : s.vm.findClass RX0 = some m.cls := findClass_of_methodNamed B0.named
  have hlocks := B0.notSynchronized
  have hl := lv_entry ([.ref (A 0), .int x]) (n := 2) (Nat.le_of_ble_eq_true rfl)
  rw [lg_entry_eq]
  generalize (lg_sl ([.ref (A 0), .int x]) ++ List.replicate (2 - (lg_sl ([.ref (A 0), .int x])).length) Slot.unset).toArray = ls at hl ⊢
  have hl : lv_has ls 2 [(0, .ref (A 0)), (1, .int x)] := hl
  refine lv_iload_n hx hb dX0_next_0 rfl (lv_at hl 1 rfl) ?_
  refine xr_S (n := 1) (As := [.int x]) (rest := []) ⟨hx, hb, hml, hown, ht⟩ (c_isLog l x) (xg_S kml_RX0_37 kst_yX0_isLog kin_RX0 kco_yX0_isLog) ⟨rfl, rfl⟩ (by decide +kernel) ⟨Nat.le_of_ble_eq_true rfl, Nat.le_of_ble_eq_true rfl⟩ xk_preE rfl hl.1 rfl (Nat.le_of_ble_eq_true rfl) dX0_next_1 ⟨Nat.zero_le _, Nat.zero_le _⟩ (fun r1 e1 => ?_)
  have e1 : r1 = 0 := e1.elim (fun z => absurd ⟨z.choose, z.choose_spec.1, z.choose_spec.2.1⟩ hbad) (fun z => z.2)
  subst e1
  refine lv_if_ne (tgt := 17) hx hb dX0_next_4 (by decide) (fun h0 => ?_) (fun h0 => ?_)
  · exact absurd rfl h0
  · exact xt_thr (ik := 41) (is := 43) (ic := 45) hx hb hl0 hown (by decide +kernel) (ht _ kcl_RX0_41) (ht _ kin_java_lang_IllegalArgumentException) hs0 ht hXN xT_A xN_A xot_A hXU hXV (hl.1.trans hml.symm) dX0_next_7 dX0_next_10 dX0_next_11 dX0_next_13 dX0_next_16 hout (Nat.le_of_ble_eq_true rfl) (Nat.le_of_ble_eq_true rfl) (Nat.le_of_ble_eq_true rfl) (Nat.le_of_ble_eq_true rfl) hlocks

set_option maxHeartbeats 4000000 in
set_option maxRecDepth 100000 in
/-- isUsed -/
theorem c_isUsed_ok (l : Launch) (D : va_G) (A : Nat → Nat) (K : Nat → ClassId) (n : Nat) (U TH AG : Nat → Nat) (Z : Nat → Bool) (B : Nat → Nat) (TK : Nat) (hn : n ≤ 128) (hU : ∀ j, U j < 65536) (hT : ∀ j, TH j < 65536) (j k : Nat) (hj : j < n) (hk : k < 16) : Met l yX0_isUsed (xw yX0_isUsed cX0_isUsed 3 (some .boolean)) ({ frames := 2, cells := 0, slots := 0, locals := 41 }) (xk_P [.ref (A 0), .int (nI (96 + 16 * j + k))] D (xc_T K) (xc_W A K n U TH AG Z B TK)) (vp_Si (fun r => r = xb ((U j).testBit k))) 0 0 (fun _ => False) := by
  refine Met.ofW (cc := cX0_isUsed) (maxL := 3) (ret := (some .boolean)) (by decide) rfl ?_
  intro p e s m args below meth c s₁ B0 hml hv
  obtain ⟨rfl, hP, hK⟩ := hv
  have hx := B0.exec
  have hb := B0.bytes
  have hr := B0.returns
  have ht : ∀ w ∈ xT, w.before _ s = true := fun w h => atoms_spec (ws := xw yX0_isUsed cX0_isUsed 3 (some .boolean)) B0.pre w (List.mem_cons_of_mem _ h)
  have hown : s.vm.findClass RX0 = some m.cls := findClass_of_methodNamed B0.named
  have hlocks := B0.notSynchronized
  have hl := lv_entry ([.ref (A 0), .int (nI (96 + 16 * j + k))]) (n := 3) (Nat.le_of_ble_eq_true rfl)
  rw [lg_entry_eq]
  generalize (lg_sl ([.ref (A 0), .int (nI (96 + 16 * j + k))]) ++ List.replicate (3 - (lg_sl ([.ref (A 0), .int (nI (96 + 16 * j + k))])).length) Slot.unset).toArray = ls at hl ⊢
  have hl : lv_has ls 3 [(0, .ref (A 0)), (1, .int (nI (96 + 16 * j + k)))] := hl
  refine lv_aload_n hx hb dX0_isUsed_0 rfl (lv_at hl 0 rfl) ?_
  refine lv_iload_n hx hb dX0_isUsed_1 rfl (lv_at hl 1 rfl) ?_
  refine xr_V (n := 1) (As := [.int (nI (96 + 16 * j + k))]) (rest := []) ⟨hx, hb, hml, hown, ht⟩ (c_segmentOf l D A K n U TH AG Z B TK (nI (96 + 16 * j + k)) hn) (xg_V kml_RX0_64 kim_yX0_segmentOf ksl_yX0_segmentOf kin_RX0 kco_yX0_segmentOf) ⟨rfl, rfl⟩ (by decide +kernel) ⟨Nat.le_of_ble_eq_true rfl, Nat.le_of_ble_eq_true rfl⟩ (xk_preV hP hK rfl rfl) rfl hl.1 rfl (Nat.le_of_ble_eq_true rfl) dX0_isUsed_2 ⟨Nat.zero_le _, Nat.zero_le _⟩ (fun r1 e1 => ?_)
  have e1 : r1 = nI j := by
    rcases e1 with ⟨j9, k9, hj9, hk9, e9, rfl⟩ | ⟨q9, -⟩
    · have e9 := (nI_eq (by omega) (by omega)).mp e9; congr 1; omega
    · exact absurd ⟨j, k, by omega, by omega, rfl⟩ q9
  subst e1
  refine lv_istore_n (lv' := [(2, .int (nI j)), (0, .ref (A 0)), (1, .int (nI (96 + 16 * j + k)))]) hx hb dX0_isUsed_5 rfl hl (by decide) rfl (fun ls hl => ?_)
  refine lv_iload_n hx hb dX0_isUsed_6 rfl (lv_at hl 0 rfl) ?_
  refine lv_iconst (v := -1) hx hb dX0_isUsed_7 (by decide) ?_
  refine lv_icmp_ne (tgt := 21) hx hb dX0_isUsed_8 (by decide) (fun h1 => ?_) (fun h1 => ?_)
  · refine lv_aload_n hx hb dX0_isUsed_21 rfl (lv_at hl 1 rfl) ?_
    refine va_get (D := D) (ci := 0) (v := .ref (A 1)) (C := RX0) (T := TX0) (N := 7) hx hb ht xin_X0 hown hK hP 0 rfl rfl 1 (by decide) (ht _ kfl_RX0_13) (fun _ h9 => h9) rfl dX0_isUsed_22 ?_
    refine lv_iload_n hx hb dX0_isUsed_25 rfl (lv_at hl 0 rfl) ?_
    refine xa_ild hx hb hK hP 1 0 rfl rfl (v := nI (U j)) hj (by omega) rfl dX0_isUsed_26 ?_
    refine lv_iload_n hx hb dX0_isUsed_27 rfl (lv_at hl 2 rfl) ?_
    refine xr_S (n := 1) (As := [.int (nI (96 + 16 * j + k))]) (rest := [.int (nI (U j))]) ⟨hx, hb, hml, hown, ht⟩ (c_bitOf l j k (by omega) hk) (xg_S kml_RX0_69 kst_yX0_bitOf kin_RX0 kco_yX0_bitOf) ⟨rfl, rfl⟩ (by decide +kernel) ⟨Nat.le_of_ble_eq_true rfl, Nat.le_of_ble_eq_true rfl⟩ xk_preE rfl hl.1 rfl (Nat.le_of_ble_eq_true rfl) dX0_isUsed_28 ⟨Nat.zero_le _, Nat.zero_le _⟩ (fun r2 e2 => ?_)
    subst e2
    refine lv_iand hx hb dX0_isUsed_31 ?_
    refine lv_if_eq (tgt := 39) hx hb dX0_isUsed_32 (by decide) (fun h2 => ?_) (fun h2 => ?_)
    · refine lv_iconst (v := 0) hx hb dX0_isUsed_39 (by decide) ?_
      exact W.zret (v := 0) (ty := .boolean) hx hb hr (by decide) (fun t ht hW => ⟨0, rfl, (by rw [(xtb0 (hU j)).mp h2]; rfl), ht⟩) (fun _ h => by cases h) dX0_isUsed_40
    · refine lv_iconst (v := 1) hx hb dX0_isUsed_35 (by decide) ?_
      refine lv_goto (tgt := 40) hx hb dX0_isUsed_36 (by decide) ?_
      exact W.zret (v := 1) (ty := .boolean) hx hb hr (by decide) (fun t ht hW => ⟨1, rfl, (by rw [(xtb1 (hU j)).mp h2]; rfl), ht⟩) (fun _ h => by cases h) dX0_isUsed_40
  · exact absurd h1 (xp_m1 (by omega))

set_option maxHeartbeats 4000000 in
set_option maxRecDepth 100000 in
/-- isUsed: no such block -/
theorem c_isUsed_bad (l : Launch) (D : va_G) (A : Nat → Nat) (K : Nat → ClassId) (n : Nat) (U TH AG : Nat → Nat) (Z : Nat → Bool) (B : Nat → Nat) (TK : Nat) (hn : n ≤ 128) (x : Int32) (hbad : ¬ ∃ j k : Nat, j < n ∧ k < 16 ∧ x = nI (96 + 16 * j + k)) (sz0 : Nat) (sa : Nat → Nat) (hl0 : l.stackTraces = false) : vx_Met l yX0_isUsed (xw yX0_isUsed cX0_isUsed 3 (some .boolean)) ({ frames := 6, cells := 1, slots := 6, locals := 90 }) (xk_X [.ref (A 0), .int x] D (xc_T K) (xc_W A K n U TH AG Z B TK) sz0 sa) xt_i (xt_X xIA) 1 6 (fun _ => False) := by
  refine vx_ofW (cc := cX0_isUsed) (maxL := 3) (ret := (some .boolean)) (by decide) rfl ?_
  intro p e s m args below meth c s₁ B0 hml hout hv
  obtain ⟨rfl, hP, hK, hX⟩ := hv
  obtain ⟨hXU, hXV, hXN, hs0, hs1, hs2, hs3, hs4, hs5, -⟩ := id hX
  have hx := B0.exec
  have hb := B0.bytes
  have hr := B0.returns
  have ht : ∀ w ∈ xT, w.before _ s = true := fun w h => atoms_spec (ws := xw yX0_isUsed cX0_isUsed 3 (some .boolean)) B0.pre w (List.mem_cons_of_mem _ h)
  have hown : s.vm.findClass RX0 = some m.cls := findClass_of_methodNamed B0.named
  have hlocks := B0.notSynchronized
  have hl := lv_entry ([.ref (A 0), .int x]) (n := 3) (Nat.le_of_ble_eq_true rfl)
  rw [lg_entry_eq]
  generalize (lg_sl ([.ref (A 0), .int x]) ++ List.replicate (3 - (lg_sl ([.ref (A 0), .int x])).length) Slot.unset).toArray = ls at hl ⊢
  have hl : lv_has ls 3 [(0, .ref (A 0)), (1, .int x)] := hl
  refine lv_aload_n hx hb dX0_isUsed_0 rfl (lv_at hl 0 rfl) ?_
  refine lv_iload_n hx hb dX0_isUsed_1 rfl (lv_at hl 1 rfl) ?_
  refine xr_V (n := 1) (As := [.int x]) (rest := []) ⟨hx, hb, hml, hown, ht⟩ (c_segmentOf l D A K n U TH AG Z B TK x hn) (xg_V kml_RX0_64 kim_yX0_segmentOf ksl_yX0_segmentOf kin_RX0 kco_yX0_segmentOf) ⟨rfl, rfl⟩ (by decide +kernel) ⟨Nat.le_of_ble_eq_true rfl, Nat.le_of_ble_eq_true rfl⟩ (xk_preV hP hK rfl rfl) rfl hl.1 rfl (Nat.le_of_ble_eq_true rfl) dX0_isUsed_2 ⟨Nat.zero_le _, Nat.zero_le _⟩ (fun r1 e1 => ?_)
  have e1 : r1 = -1 := e1.elim (fun ⟨j, k, h1, h2, h3, _⟩ => absurd ⟨j, k, h1, h2, h3⟩ hbad) (fun z => z.2)
  subst e1
  refine lv_istore_n (lv' := [(2, .int (-1)), (0, .ref (A 0)), (1, .int x)]) hx hb dX0_isUsed_5 rfl hl (by decide) rfl (fun ls hl => ?_)
  refine lv_iload_n hx hb dX0_isUsed_6 rfl (lv_at hl 0 rfl) ?_
  refine lv_iconst (v := -1) hx hb dX0_isUsed_7 (by decide) ?_
  refine lv_icmp_ne (tgt := 21) hx hb dX0_isUsed_8 (by decide) (fun h1 => ?_) (fun h1 => ?_)
  · exact absurd rfl h1
  · exact xt_thr (ik := 41) (is := 67) (ic := 45) hx hb hl0 hown (by decide +kernel) (ht _ kcl_RX0_41) (ht _ kin_java_lang_IllegalArgumentException) hs2 ht hXN xT_A xN_A xot_A hXU hXV (hl.1.trans hml.symm) dX0_isUsed_11 dX0_isUsed_14 dX0_isUsed_15 dX0_isUsed_17 dX0_isUsed_20 hout (Nat.le_of_ble_eq_true rfl) (Nat.le_of_ble_eq_true rfl) (Nat.le_of_ble_eq_true rfl) (Nat.le_of_ble_eq_true rfl) hlocks

set_option maxHeartbeats 4000000 in
set_option maxRecDepth 100000 in
/-- drop -/
theorem c_drop_ok (l : Launch) (D : va_G) (A : Nat → Nat) (K : Nat → ClassId) (n : Nat) (U TH AG : Nat → Nat) (Z : Nat → Bool) (B : Nat → Nat) (TK : Nat) (hn : n ≤ 128) (hU : ∀ j, U j < 65536) (hT : ∀ j, TH j < 65536) (j k : Nat) (hj : j < n) (hk : k < 16) (hs : (U j).testBit k = true) (sz : Nat) : Met l yX0_drop (xw yX0_drop cX0_drop 3 none) ({ frames := 2, cells := 0, slots := 0, locals := 41 }) (xk_M [.ref (A 0), .int (nI (96 + 16 * j + k))] D (xc_T K) (xc_W A K n U TH AG Z B TK) sz) (xk_Q (fun v => v = none) D (xc_W A K n U TH AG Z B TK) (xc_W A K n (va_up U j (U j &&& (65535 ^^^ 2 ^ k))) TH AG Z B TK)) 0 0 (va_A (xc_W A K n U TH AG Z B TK) sz) := by
  refine Met.ofW (cc := cX0_drop) (maxL := 3) (ret := none) (by decide) rfl ?_
  intro p e s m args below meth c s₁ B0 hml hv
  obtain ⟨rfl, hsz, hP, hK, hD0⟩ := hv
  have hx := B0.exec
  have hb := B0.bytes
  have hr := B0.returns
  have ht : ∀ w ∈ xT, w.before _ s = true := fun w h => atoms_spec (ws := xw yX0_drop cX0_drop 3 none) B0.pre w (List.mem_cons_of_mem _ h)
  have hown : s.vm.findClass RX0 = some m.cls := findClass_of_methodNamed B0.named
  have hlocks := B0.notSynchronized
  have hl := lv_entry ([.ref (A 0), .int (nI (96 + 16 * j + k))]) (n := 3) (Nat.le_of_ble_eq_true rfl)
  rw [lg_entry_eq]
  generalize (lg_sl ([.ref (A 0), .int (nI (96 + 16 * j + k))]) ++ List.replicate (3 - (lg_sl ([.ref (A 0), .int (nI (96 + 16 * j + k))])).length) Slot.unset).toArray = ls at hl ⊢
  have hl : lv_has ls 3 [(0, .ref (A 0)), (1, .int (nI (96 + 16 * j + k)))] := hl
  subst hsz
  have hD := hD0.self (sz := s.heap.size)
  have hA : ∀ q : Nat, s.heap.size ≤ q → va_A (xc_W A K n U TH AG Z B TK) s.heap.size q := fun q h => Or.inr h
  have hS : va_S (va_A (xc_W A K n U TH AG Z B TK) s.heap.size) s.heap s.heap [] := va_S.rf
  refine lv_aload_n hx hb dX0_drop_0 rfl (lv_at hl 0 rfl) ?_
  refine lv_iload_n hx hb dX0_drop_1 rfl (lv_at hl 1 rfl) ?_
  refine xr_V (n := 1) (As := [.int (nI (96 + 16 * j + k))]) (rest := []) ⟨hx, hb, hml, hown, ht⟩ (c_segmentOf l D A K n U TH AG Z B TK (nI (96 + 16 * j + k)) hn) (xg_V kml_RX0_64 kim_yX0_segmentOf ksl_yX0_segmentOf kin_RX0 kco_yX0_segmentOf) ⟨rfl, rfl⟩ (by decide +kernel) ⟨Nat.le_of_ble_eq_true rfl, Nat.le_of_ble_eq_true rfl⟩ (xk_preV hP hK rfl rfl) rfl hl.1 rfl (Nat.le_of_ble_eq_true rfl) dX0_drop_2 ⟨Nat.zero_le _, Nat.zero_le _⟩ (fun r1 e1 => ?_)
  have e1 : r1 = nI j := by
    rcases e1 with ⟨j9, k9, hj9, hk9, e9, rfl⟩ | ⟨q9, -⟩
    · have e9 := (nI_eq (by omega) (by omega)).mp e9; congr 1; omega
    · exact absurd ⟨j, k, by omega, by omega, rfl⟩ q9
  subst e1
  refine lv_istore_n (lv' := [(2, .int (nI j)), (0, .ref (A 0)), (1, .int (nI (96 + 16 * j + k)))]) hx hb dX0_drop_5 rfl hl (by decide) rfl (fun ls hl => ?_)
  refine lv_iload_n hx hb dX0_drop_6 rfl (lv_at hl 0 rfl) ?_
  refine lv_iconst (v := -1) hx hb dX0_drop_7 (by decide) ?_
  refine lv_icmp_ne (tgt := 21) hx hb dX0_drop_8 (by decide) (fun h1 => ?_) (fun h1 => ?_)
  · refine lv_aload_n hx hb dX0_drop_21 rfl (lv_at hl 1 rfl) ?_
    refine va_get (D := D) (ci := 0) (v := .ref (A 1)) (C := RX0) (T := TX0) (N := 7) hx hb ht xin_X0 hown hK hP 0 rfl rfl 1 (by decide) (ht _ kfl_RX0_13) (fun _ h9 => h9) rfl dX0_drop_22 ?_
    refine lv_iload_n hx hb dX0_drop_25 rfl (lv_at hl 0 rfl) ?_
    refine xa_ild hx hb hK hP 1 0 rfl rfl (v := nI (U j)) hj (by omega) rfl dX0_drop_26 ?_
    refine lv_iload_n hx hb dX0_drop_27 rfl (lv_at hl 2 rfl) ?_
    refine xr_S (n := 1) (As := [.int (nI (96 + 16 * j + k))]) (rest := [.int (nI (U j))]) ⟨hx, hb, hml, hown, ht⟩ (c_bitOf l j k (by omega) hk) (xg_S kml_RX0_69 kst_yX0_bitOf kin_RX0 kco_yX0_bitOf) ⟨rfl, rfl⟩ (by decide +kernel) ⟨Nat.le_of_ble_eq_true rfl, Nat.le_of_ble_eq_true rfl⟩ xk_preE rfl hl.1 rfl (Nat.le_of_ble_eq_true rfl) dX0_drop_28 ⟨Nat.zero_le _, Nat.zero_le _⟩ (fun r2 e2 => ?_)
    subst e2
    refine lv_iand hx hb dX0_drop_31 ?_
    refine lv_if_ne (tgt := 45) hx hb dX0_drop_32 (by decide) (fun h2 => ?_) (fun h2 => ?_)
    · refine lv_aload_n hx hb dX0_drop_45 rfl (lv_at hl 1 rfl) ?_
      refine va_get (D := D) (ci := 0) (v := .ref (A 1)) (C := RX0) (T := TX0) (N := 7) hx hb ht xin_X0 hown hK hP 0 rfl rfl 1 (by decide) (ht _ kfl_RX0_13) (fun _ h9 => h9) rfl dX0_drop_46 ?_
      refine lv_iload_n hx hb dX0_drop_49 rfl (lv_at hl 0 rfl) ?_
      refine lv_dup2_11 hx hb dX0_drop_50 rfl rfl ?_
      refine xa_ild hx hb hK hP 1 0 rfl rfl (v := nI (U j)) hj (by omega) rfl dX0_drop_51 ?_
      refine lv_iload_n hx hb dX0_drop_52 rfl (lv_at hl 2 rfl) ?_
      refine xr_S (n := 1) (As := [.int (nI (96 + 16 * j + k))]) (rest := [.int (nI (U j)), .int (nI j), .ref (A 1)]) ⟨hx, hb, hml, hown, ht⟩ (c_bitOf l j k (by omega) hk) (xg_S kml_RX0_69 kst_yX0_bitOf kin_RX0 kco_yX0_bitOf) ⟨rfl, rfl⟩ (by decide +kernel) ⟨Nat.le_of_ble_eq_true rfl, Nat.le_of_ble_eq_true rfl⟩ xk_preE rfl hl.1 rfl (Nat.le_of_ble_eq_true rfl) dX0_drop_53 ⟨Nat.zero_le _, Nat.zero_le _⟩ (fun r3 e3 => ?_)
      subst e3
      refine lv_iconst (v := -1) hx hb dX0_drop_56 (by decide) ?_
      refine lv_ixor hx hb dX0_drop_57 ?_
      refine lv_iand hx hb dX0_drop_58 ?_
      refine xa_top (y := nI (U j &&& (65535 ^^^ 2 ^ k))) (xclr (hU j) hk) ?_
      refine xa_ist hx hb hK hP hD hS 1 0 rfl rfl hj (by omega) (xu_n U j _) dX0_drop_59 (fun H locs hP hD hS => ?_)
      have hP : va_P D xcl (xc_W A K n (va_up U j (U j &&& (65535 ^^^ 2 ^ k))) TH AG Z B TK) H := hP
      have hD : va_D (va_A (xc_W A K n U TH AG Z B TK) s.heap.size) (xc_W A K n (va_up U j (U j &&& (65535 ^^^ 2 ^ k))) TH AG Z B TK) := hD
      exact W.vret hx hb hr (fun t ht hW => ⟨⟨none, rfl, rfl⟩, by rw [ht]; exact hP, hS.F ht⟩) hS.2.2 dX0_drop_60
    · rw [(xtb0 (hU j)).mp h2] at hs; cases hs
  · exact absurd h1 (xp_m1 (by omega))

set_option maxHeartbeats 4000000 in
set_option maxRecDepth 100000 in
/-- drop: no such block -/
theorem c_drop_bad (l : Launch) (D : va_G) (A : Nat → Nat) (K : Nat → ClassId) (n : Nat) (U TH AG : Nat → Nat) (Z : Nat → Bool) (B : Nat → Nat) (TK : Nat) (hn : n ≤ 128) (x : Int32) (hbad : ¬ ∃ j k : Nat, j < n ∧ k < 16 ∧ x = nI (96 + 16 * j + k)) (sz0 : Nat) (sa : Nat → Nat) (hl0 : l.stackTraces = false) : vx_Met l yX0_drop (xw yX0_drop cX0_drop 3 none) ({ frames := 6, cells := 1, slots := 6, locals := 90 }) (xk_X [.ref (A 0), .int x] D (xc_T K) (xc_W A K n U TH AG Z B TK) sz0 sa) xt_v (xt_X xIA) 1 6 (fun _ => False) := by
  refine vx_ofW (cc := cX0_drop) (maxL := 3) (ret := none) (by decide) rfl ?_
  intro p e s m args below meth c s₁ B0 hml hout hv
  obtain ⟨rfl, hP, hK, hX⟩ := hv
  obtain ⟨hXU, hXV, hXN, hs0, hs1, hs2, hs3, hs4, hs5, -⟩ := id hX
  have hx := B0.exec
  have hb := B0.bytes
  have hr := B0.returns
  have ht : ∀ w ∈ xT, w.before _ s = true := fun w h => atoms_spec (ws := xw yX0_drop cX0_drop 3 none) B0.pre w (List.mem_cons_of_mem _ h)
  have hown : s.vm.findClass RX0 = some m.cls := findClass_of_methodNamed B0.named
  have hlocks := B0.notSynchronized
  have hl := lv_entry ([.ref (A 0), .int x]) (n := 3) (Nat.le_of_ble_eq_true rfl)
  rw [lg_entry_eq]
  generalize (lg_sl ([.ref (A 0), .int x]) ++ List.replicate (3 - (lg_sl ([.ref (A 0), .int x])).length) Slot.unset).toArray = ls at hl ⊢
  have hl : lv_has ls 3 [(0, .ref (A 0)), (1, .int x)] := hl
  refine lv_aload_n hx hb dX0_drop_0 rfl (lv_at hl 0 rfl) ?_
  refine lv_iload_n hx hb dX0_drop_1 rfl (lv_at hl 1 rfl) ?_
  refine xr_V (n := 1) (As := [.int x]) (rest := []) ⟨hx, hb, hml, hown, ht⟩ (c_segmentOf l D A K n U TH AG Z B TK x hn) (xg_V kml_RX0_64 kim_yX0_segmentOf ksl_yX0_segmentOf kin_RX0 kco_yX0_segmentOf) ⟨rfl, rfl⟩ (by decide +kernel) ⟨Nat.le_of_ble_eq_true rfl, Nat.le_of_ble_eq_true rfl⟩ (xk_preV hP hK rfl rfl) rfl hl.1 rfl (Nat.le_of_ble_eq_true rfl) dX0_drop_2 ⟨Nat.zero_le _, Nat.zero_le _⟩ (fun r1 e1 => ?_)
  have e1 : r1 = -1 := e1.elim (fun ⟨j, k, h1, h2, h3, _⟩ => absurd ⟨j, k, h1, h2, h3⟩ hbad) (fun z => z.2)
  subst e1
  refine lv_istore_n (lv' := [(2, .int (-1)), (0, .ref (A 0)), (1, .int x)]) hx hb dX0_drop_5 rfl hl (by decide) rfl (fun ls hl => ?_)
  refine lv_iload_n hx hb dX0_drop_6 rfl (lv_at hl 0 rfl) ?_
  refine lv_iconst (v := -1) hx hb dX0_drop_7 (by decide) ?_
  refine lv_icmp_ne (tgt := 21) hx hb dX0_drop_8 (by decide) (fun h1 => ?_) (fun h1 => ?_)
  · exact absurd rfl h1
  · exact xt_thr (ik := 41) (is := 67) (ic := 45) hx hb hl0 hown (by decide +kernel) (ht _ kcl_RX0_41) (ht _ kin_java_lang_IllegalArgumentException) hs2 ht hXN xT_A xN_A xot_A hXU hXV (hl.1.trans hml.symm) dX0_drop_11 dX0_drop_14 dX0_drop_15 dX0_drop_17 dX0_drop_20 hout (Nat.le_of_ble_eq_true rfl) (Nat.le_of_ble_eq_true rfl) (Nat.le_of_ble_eq_true rfl) (Nat.le_of_ble_eq_true rfl) hlocks

set_option maxHeartbeats 4000000 in
set_option maxRecDepth 100000 in
/-- drop: not in use -/
theorem c_drop_no (l : Launch) (D : va_G) (A : Nat → Nat) (K : Nat → ClassId) (n : Nat) (U TH AG : Nat → Nat) (Z : Nat → Bool) (B : Nat → Nat) (TK : Nat) (hn : n ≤ 128) (hU : ∀ j, U j < 65536) (hT : ∀ j, TH j < 65536) (j k : Nat) (hj : j < n) (hk : k < 16) (hs : (U j).testBit k = false) (sz0 : Nat) (sa : Nat → Nat) (hl0 : l.stackTraces = false) : vx_Met l yX0_drop (xw yX0_drop cX0_drop 3 none) ({ frames := 6, cells := 1, slots := 6, locals := 90 }) (xk_X [.ref (A 0), .int (nI (96 + 16 * j + k))] D (xc_T K) (xc_W A K n U TH AG Z B TK) sz0 sa) xt_v (xt_X xIS) 1 6 (fun _ => False) := by
  refine vx_ofW (cc := cX0_drop) (maxL := 3) (ret := none) (by decide) rfl ?_
  intro p e s m args below meth c s₁ B0 hml hout hv
  obtain ⟨rfl, hP, hK, hX⟩ := hv
  obtain ⟨hXU, hXV, hXN, hs0, hs1, hs2, hs3, hs4, hs5, -⟩ := id hX
  have hx := B0.exec
  have hb := B0.bytes
  have hr := B0.returns
  have ht : ∀ w ∈ xT, w.before _ s = true := fun w h => atoms_spec (ws := xw yX0_drop cX0_drop 3 none) B0.pre w (List.mem_cons_of_mem _ h)
  have hown : s.vm.findClass RX0 = some m.cls := findClass_of_methodNamed B0.named
  have hlocks := B0.notSynchronized
  have hl := lv_entry ([.ref (A 0), .int (nI (96 + 16 * j + k))]) (n := 3) (Nat.le_of_ble_eq_true rfl)
  rw [lg_entry_eq]
  generalize (lg_sl ([.ref (A 0), .int (nI (96 + 16 * j + k))]) ++ List.replicate (3 - (lg_sl ([.ref (A 0), .int (nI (96 + 16 * j + k))])).length) Slot.unset).toArray = ls at hl ⊢
  have hl : lv_has ls 3 [(0, .ref (A 0)), (1, .int (nI (96 + 16 * j + k)))] := hl
  refine lv_aload_n hx hb dX0_drop_0 rfl (lv_at hl 0 rfl) ?_
  refine lv_iload_n hx hb dX0_drop_1 rfl (lv_at hl 1 rfl) ?_
  refine xr_V (n := 1) (As := [.int (nI (96 + 16 * j + k))]) (rest := []) ⟨hx, hb, hml, hown, ht⟩ (c_segmentOf l D A K n U TH AG Z B TK (nI (96 + 16 * j + k)) hn) (xg_V kml_RX0_64 kim_yX0_segmentOf ksl_yX0_segmentOf kin_RX0 kco_yX0_segmentOf) ⟨rfl, rfl⟩ (by decide +kernel) ⟨Nat.le_of_ble_eq_true rfl, Nat.le_of_ble_eq_true rfl⟩ (xk_preV hP hK rfl rfl) rfl hl.1 rfl (Nat.le_of_ble_eq_true rfl) dX0_drop_2 ⟨Nat.zero_le _, Nat.zero_le _⟩ (fun r1 e1 => ?_)
  have e1 : r1 = nI j := by
    rcases e1 with ⟨j9, k9, hj9, hk9, e9, rfl⟩ | ⟨q9, -⟩
    · have e9 := (nI_eq (by omega) (by omega)).mp e9; congr 1; omega
    · exact absurd ⟨j, k, by omega, by omega, rfl⟩ q9
  subst e1
  refine lv_istore_n (lv' := [(2, .int (nI j)), (0, .ref (A 0)), (1, .int (nI (96 + 16 * j + k)))]) hx hb dX0_drop_5 rfl hl (by decide) rfl (fun ls hl => ?_)
  refine lv_iload_n hx hb dX0_drop_6 rfl (lv_at hl 0 rfl) ?_
  refine lv_iconst (v := -1) hx hb dX0_drop_7 (by decide) ?_
  refine lv_icmp_ne (tgt := 21) hx hb dX0_drop_8 (by decide) (fun h1 => ?_) (fun h1 => ?_)
  · refine lv_aload_n hx hb dX0_drop_21 rfl (lv_at hl 1 rfl) ?_
    refine va_get (D := D) (ci := 0) (v := .ref (A 1)) (C := RX0) (T := TX0) (N := 7) hx hb ht xin_X0 hown hK hP 0 rfl rfl 1 (by decide) (ht _ kfl_RX0_13) (fun _ h9 => h9) rfl dX0_drop_22 ?_
    refine lv_iload_n hx hb dX0_drop_25 rfl (lv_at hl 0 rfl) ?_
    refine xa_ild hx hb hK hP 1 0 rfl rfl (v := nI (U j)) hj (by omega) rfl dX0_drop_26 ?_
    refine lv_iload_n hx hb dX0_drop_27 rfl (lv_at hl 2 rfl) ?_
    refine xr_S (n := 1) (As := [.int (nI (96 + 16 * j + k))]) (rest := [.int (nI (U j))]) ⟨hx, hb, hml, hown, ht⟩ (c_bitOf l j k (by omega) hk) (xg_S kml_RX0_69 kst_yX0_bitOf kin_RX0 kco_yX0_bitOf) ⟨rfl, rfl⟩ (by decide +kernel) ⟨Nat.le_of_ble_eq_true rfl, Nat.le_of_ble_eq_true rfl⟩ xk_preE rfl hl.1 rfl (Nat.le_of_ble_eq_true rfl) dX0_drop_28 ⟨Nat.zero_le _, Nat.zero_le _⟩ (fun r2 e2 => ?_)
    subst e2
    refine lv_iand hx hb dX0_drop_31 ?_
    refine lv_if_ne (tgt := 45) hx hb dX0_drop_32 (by decide) (fun h2 => ?_) (fun h2 => ?_)
    · rw [(xtb1 (hU j)).mp h2] at hs; cases hs
    · exact xt_thr (ik := 51) (is := 72) (ic := 55) hx hb hl0 hown (by decide +kernel) (ht _ kcl_RX0_51) (ht _ kin_java_lang_IllegalStateException) hs3 ht hXN xT_S xN_S xot_S hXU hXV (hl.1.trans hml.symm) dX0_drop_35 dX0_drop_38 dX0_drop_39 dX0_drop_41 dX0_drop_44 hout (Nat.le_of_ble_eq_true rfl) (Nat.le_of_ble_eq_true rfl) (Nat.le_of_ble_eq_true rfl) (Nat.le_of_ble_eq_true rfl) hlocks
  · exact absurd h1 (xp_m1 (by omega))

set_option maxHeartbeats 4000000 in
set_option maxRecDepth 100000 in
/-- look -/
theorem c_look_ok (l : Launch) (D : va_G) (A : Nat → Nat) (K : Nat → ClassId) (n : Nat) (U TH AG : Nat → Nat) (Z : Nat → Bool) (B : Nat → Nat) (TK : Nat) (hn : n ≤ 128) (j v : Nat) (hj : j < n) (hv : v < 4) : Met l yX0_look (xw yX0_look cX0_look 3 (some .int)) ({ frames := 1, cells := 0, slots := 0, locals := 21 }) (xk_P [.ref (A 0), .int (nI j), .int (nI v)] D (xc_T K) (xc_W A K n U TH AG Z B TK)) (vp_Si (fun r => r = xlk U TH AG Z j v)) 0 0 (fun _ => False) := by
  refine Met.ofW (cc := cX0_look) (maxL := 3) (ret := (some .int)) (by decide) rfl ?_
  intro p e s m args below meth c s₁ B0 hml hv
  obtain ⟨rfl, hP, hK⟩ := hv
  have hx := B0.exec
  have hb := B0.bytes
  have hr := B0.returns
  have ht : ∀ w ∈ xT, w.before _ s = true := fun w h => atoms_spec (ws := xw yX0_look cX0_look 3 (some .int)) B0.pre w (List.mem_cons_of_mem _ h)
  have hown : s.vm.findClass RX0 = some m.cls := findClass_of_methodNamed B0.named
  have hlocks := B0.notSynchronized
  have hl := lv_entry ([.ref (A 0), .int (nI j), .int (nI v)]) (n := 3) (Nat.le_of_ble_eq_true rfl)
  rw [lg_entry_eq]
  generalize (lg_sl ([.ref (A 0), .int (nI j), .int (nI v)]) ++ List.replicate (3 - (lg_sl ([.ref (A 0), .int (nI j), .int (nI v)])).length) Slot.unset).toArray = ls at hl ⊢
  have hl : lv_has ls 3 [(0, .ref (A 0)), (1, .int (nI j)), (2, .int (nI v))] := hl
  refine lv_aload_n hx hb dX0_look_0 rfl (lv_at hl 0 rfl) ?_
  refine lv_iload_n hx hb dX0_look_1 rfl (lv_at hl 1 rfl) ?_
  refine xr_V (n := 1) (As := [.int (nI j)]) (rest := []) ⟨hx, hb, hml, hown, ht⟩ (c_isSegment l D A K n U TH AG Z B TK (nI j) hn) (xg_V kml_RX0_93 kim_yX0_isSegment ksl_yX0_isSegment kin_RX0 kco_yX0_isSegment) ⟨rfl, rfl⟩ (by decide +kernel) ⟨Nat.le_of_ble_eq_true rfl, Nat.le_of_ble_eq_true rfl⟩ (xk_preV hP hK rfl rfl) rfl hl.1 rfl (Nat.le_of_ble_eq_true rfl) dX0_look_2 ⟨Nat.zero_le _, Nat.zero_le _⟩ (fun r1 e1 => ?_)
  have e1 : r1 = 1 := e1.elim (fun q => q.choose_spec.2.2) (fun q => absurd ⟨j, hj, rfl⟩ q.1)
  subst e1
  refine lv_if_ne (tgt := 18) hx hb dX0_look_5 (by decide) (fun h0 => ?_) (fun h0 => ?_)
  · refine lv_iload_n hx hb dX0_look_18 rfl (lv_at hl 2 rfl) ?_
    rcases (show v = 0 ∨ v = 1 ∨ v = 2 ∨ v = 3 by omega) with rfl | rfl | rfl | rfl
    · refine lv_tableIn (tgt := 48) hx hb dX0_look_19 (by decide) (by decide) rfl (by decide) ?_
      refine lv_aload_n hx hb dX0_look_48 rfl (lv_at hl 0 rfl) ?_
      refine va_get (D := D) (ci := 0) (v := .ref (A 1)) (C := RX0) (T := TX0) (N := 7) hx hb ht xin_X0 hown hK hP 0 rfl rfl 1 (by decide) (ht _ kfl_RX0_13) (fun _ h9 => h9) rfl dX0_look_49 ?_
      refine lv_iload_n hx hb dX0_look_52 rfl (lv_at hl 1 rfl) ?_
      refine xa_ild hx hb hK hP 1 0 rfl rfl (v := nI (U j)) hj (by omega) rfl dX0_look_53 ?_
      exact W.iret (v := nI (U j)) hx hb hr (fun t ht hW => ⟨nI (U j), rfl, rfl, ht⟩) (fun _ h => by cases h) dX0_look_54
    · refine lv_tableIn (tgt := 55) hx hb dX0_look_19 (by decide) (by decide) rfl (by decide) ?_
      refine lv_aload_n hx hb dX0_look_55 rfl (lv_at hl 0 rfl) ?_
      refine va_get (D := D) (ci := 0) (v := .ref (A 2)) (C := RX0) (T := TX0) (N := 7) hx hb ht xin_X0 hown hK hP 0 rfl rfl 2 (by decide) (ht _ kfl_RX0_17) (fun _ h9 => h9) rfl dX0_look_56 ?_
      refine lv_iload_n hx hb dX0_look_59 rfl (lv_at hl 1 rfl) ?_
      refine xa_ild hx hb hK hP 2 1 rfl rfl (v := nI (TH j)) hj (by omega) rfl dX0_look_60 ?_
      exact W.iret (v := nI (TH j)) hx hb hr (fun t ht hW => ⟨nI (TH j), rfl, rfl, ht⟩) (fun _ h => by cases h) dX0_look_61
    · refine lv_tableIn (tgt := 62) hx hb dX0_look_19 (by decide) (by decide) rfl (by decide) ?_
      refine lv_aload_n hx hb dX0_look_62 rfl (lv_at hl 0 rfl) ?_
      refine va_get (D := D) (ci := 0) (v := .ref (A 3)) (C := RX0) (T := TX0) (N := 7) hx hb ht xin_X0 hown hK hP 0 rfl rfl 3 (by decide) (ht _ kfl_RX0_20) (fun _ h9 => h9) rfl dX0_look_63 ?_
      refine lv_iload_n hx hb dX0_look_66 rfl (lv_at hl 1 rfl) ?_
      refine xa_ild hx hb hK hP 3 2 rfl rfl (v := nI (AG j)) hj (by omega) rfl dX0_look_67 ?_
      exact W.iret (v := nI (AG j)) hx hb hr (fun t ht hW => ⟨nI (AG j), rfl, rfl, ht⟩) (fun _ h => by cases h) dX0_look_68
    · refine lv_tableIn (tgt := 69) hx hb dX0_look_19 (by decide) (by decide) rfl (by decide) ?_
      refine lv_aload_n hx hb dX0_look_69 rfl (lv_at hl 0 rfl) ?_
      refine va_get (D := D) (ci := 0) (v := .ref (A 4)) (C := RX0) (T := TX0) (N := 7) hx hb ht xin_X0 hown hK hP 0 rfl rfl 4 (by decide) (ht _ kfl_RX0_23) (fun _ h9 => h9) rfl dX0_look_70 ?_
      refine lv_iload_n hx hb dX0_look_73 rfl (lv_at hl 1 rfl) ?_
      refine xa_zld hx hb hK hP 4 3 rfl rfl (v := xb (Z j)) hj (by omega) rfl dX0_look_74 ?_
      refine lv_if_eq (tgt := 82) hx hb dX0_look_75 (by decide) (fun h3 => ?_) (fun h3 => ?_)
      · refine lv_iconst (v := 0) hx hb dX0_look_82 (by decide) ?_
        exact W.iret (v := 0) hx hb hr (fun t ht hW => ⟨0, rfl, (by rw [xb_0] at h3; simp [xlk, h3, xb]), ht⟩) (fun _ h => by cases h) dX0_look_83
      · refine lv_iconst (v := 1) hx hb dX0_look_78 (by decide) ?_
        refine lv_goto (tgt := 83) hx hb dX0_look_79 (by decide) ?_
        exact W.iret (v := 1) hx hb hr (fun t ht hW => ⟨1, rfl, (by rw [xb_n0] at h3; simp [xlk, h3, xb]), ht⟩) (fun _ h => by cases h) dX0_look_83
  · exact absurd h0 (by decide)

set_option maxHeartbeats 4000000 in
set_option maxRecDepth 100000 in
/-- look: no such segment -/
theorem c_look_badS (l : Launch) (D : va_G) (A : Nat → Nat) (K : Nat → ClassId) (n : Nat) (U TH AG : Nat → Nat) (Z : Nat → Bool) (B : Nat → Nat) (TK : Nat) (hn : n ≤ 128) (x y : Int32) (hbad : ¬ ∃ j : Nat, j < n ∧ x = nI j) (sz0 : Nat) (sa : Nat → Nat) (hl0 : l.stackTraces = false) : vx_Met l yX0_look (xw yX0_look cX0_look 3 (some .int)) ({ frames := 6, cells := 1, slots := 6, locals := 90 }) (xk_X [.ref (A 0), .int x, .int y] D (xc_T K) (xc_W A K n U TH AG Z B TK) sz0 sa) xt_i (xt_X xIA) 1 6 (fun _ => False) := by
  refine vx_ofW (cc := cX0_look) (maxL := 3) (ret := (some .int)) (by decide) rfl ?_
  intro p e s m args below meth c s₁ B0 hml hout hv
  obtain ⟨rfl, hP, hK, hX⟩ := hv
  obtain ⟨hXU, hXV, hXN, hs0, hs1, hs2, hs3, hs4, hs5, -⟩ := id hX
  have hx := B0.exec
  have hb := B0.bytes
  have hr := B0.returns
  have ht : ∀ w ∈ xT, w.before _ s = true := fun w h => atoms_spec (ws := xw yX0_look cX0_look 3 (some .int)) B0.pre w (List.mem_cons_of_mem _ h)
  have hown : s.vm.findClass RX0 = some m.cls := findClass_of_methodNamed B0.named
  have hlocks := B0.notSynchronized
  have hl := lv_entry ([.ref (A 0), .int x, .int y]) (n := 3) (Nat.le_of_ble_eq_true rfl)
  rw [lg_entry_eq]
  generalize (lg_sl ([.ref (A 0), .int x, .int y]) ++ List.replicate (3 - (lg_sl ([.ref (A 0), .int x, .int y])).length) Slot.unset).toArray = ls at hl ⊢
  have hl : lv_has ls 3 [(0, .ref (A 0)), (1, .int x), (2, .int y)] := hl
  refine lv_aload_n hx hb dX0_look_0 rfl (lv_at hl 0 rfl) ?_
  refine lv_iload_n hx hb dX0_look_1 rfl (lv_at hl 1 rfl) ?_
  refine xr_V (n := 1) (As := [.int x]) (rest := []) ⟨hx, hb, hml, hown, ht⟩ (c_isSegment l D A K n U TH AG Z B TK x hn) (xg_V kml_RX0_93 kim_yX0_isSegment ksl_yX0_isSegment kin_RX0 kco_yX0_isSegment) ⟨rfl, rfl⟩ (by decide +kernel) ⟨Nat.le_of_ble_eq_true rfl, Nat.le_of_ble_eq_true rfl⟩ (xk_preV hP hK rfl rfl) rfl hl.1 rfl (Nat.le_of_ble_eq_true rfl) dX0_look_2 ⟨Nat.zero_le _, Nat.zero_le _⟩ (fun r1 e1 => ?_)
  have e1 : r1 = 0 := e1.elim (fun z => absurd ⟨z.choose, z.choose_spec.1, z.choose_spec.2.1⟩ hbad) (fun z => z.2)
  subst e1
  refine lv_if_ne (tgt := 18) hx hb dX0_look_5 (by decide) (fun h0 => ?_) (fun h0 => ?_)
  · exact absurd rfl h0
  · exact xt_thr (ik := 41) (is := 96) (ic := 45) hx hb hl0 hown (by decide +kernel) (ht _ kcl_RX0_41) (ht _ kin_java_lang_IllegalArgumentException) hs4 ht hXN xT_A xN_A xot_A hXU hXV (hl.1.trans hml.symm) dX0_look_8 dX0_look_11 dX0_look_12 dX0_look_14 dX0_look_17 hout (Nat.le_of_ble_eq_true rfl) (Nat.le_of_ble_eq_true rfl) (Nat.le_of_ble_eq_true rfl) (Nat.le_of_ble_eq_true rfl) hlocks

set_option maxHeartbeats 4000000 in
set_option maxRecDepth 100000 in
/-- look: no such thing -/
theorem c_look_badW (l : Launch) (D : va_G) (A : Nat → Nat) (K : Nat → ClassId) (n : Nat) (U TH AG : Nat → Nat) (Z : Nat → Bool) (B : Nat → Nat) (TK : Nat) (hn : n ≤ 128) (j : Nat) (hj : j < n) (y : Int32) (hbad : ¬ ∃ v : Nat, v < 4 ∧ y = nI v) (sz0 : Nat) (sa : Nat → Nat) (hl0 : l.stackTraces = false) : vx_Met l yX0_look (xw yX0_look cX0_look 3 (some .int)) ({ frames := 6, cells := 1, slots := 6, locals := 90 }) (xk_X [.ref (A 0), .int (nI j), .int y] D (xc_T K) (xc_W A K n U TH AG Z B TK) sz0 sa) xt_i (xt_X xIA) 1 6 (fun _ => False) := by
  refine vx_ofW (cc := cX0_look) (maxL := 3) (ret := (some .int)) (by decide) rfl ?_
  intro p e s m args below meth c s₁ B0 hml hout hv
  obtain ⟨rfl, hP, hK, hX⟩ := hv
  obtain ⟨hXU, hXV, hXN, hs0, hs1, hs2, hs3, hs4, hs5, -⟩ := id hX
  have hx := B0.exec
  have hb := B0.bytes
  have hr := B0.returns
  have ht : ∀ w ∈ xT, w.before _ s = true := fun w h => atoms_spec (ws := xw yX0_look cX0_look 3 (some .int)) B0.pre w (List.mem_cons_of_mem _ h)
  have hown : s.vm.findClass RX0 = some m.cls := findClass_of_methodNamed B0.named
  have hlocks := B0.notSynchronized
  have hl := lv_entry ([.ref (A 0), .int (nI j), .int y]) (n := 3) (Nat.le_of_ble_eq_true rfl)
  rw [lg_entry_eq]
  generalize (lg_sl ([.ref (A 0), .int (nI j), .int y]) ++ List.replicate (3 - (lg_sl ([.ref (A 0), .int (nI j), .int y])).length) Slot.unset).toArray = ls at hl ⊢
  have hl : lv_has ls 3 [(0, .ref (A 0)), (1, .int (nI j)), (2, .int y)] := hl
  refine lv_aload_n hx hb dX0_look_0 rfl (lv_at hl 0 rfl) ?_
  refine lv_iload_n hx hb dX0_look_1 rfl (lv_at hl 1 rfl) ?_
  refine xr_V (n := 1) (As := [.int (nI j)]) (rest := []) ⟨hx, hb, hml, hown, ht⟩ (c_isSegment l D A K n U TH AG Z B TK (nI j) hn) (xg_V kml_RX0_93 kim_yX0_isSegment ksl_yX0_isSegment kin_RX0 kco_yX0_isSegment) ⟨rfl, rfl⟩ (by decide +kernel) ⟨Nat.le_of_ble_eq_true rfl, Nat.le_of_ble_eq_true rfl⟩ (xk_preV hP hK rfl rfl) rfl hl.1 rfl (Nat.le_of_ble_eq_true rfl) dX0_look_2 ⟨Nat.zero_le _, Nat.zero_le _⟩ (fun r1 e1 => ?_)
  have e1 : r1 = 1 := e1.elim (fun q => q.choose_spec.2.2) (fun q => absurd ⟨j, hj, rfl⟩ q.1)
  subst e1
  refine lv_if_ne (tgt := 18) hx hb dX0_look_5 (by decide) (fun h0 => ?_) (fun h0 => ?_)
  · refine lv_iload_n hx hb dX0_look_18 rfl (lv_at hl 2 rfl) ?_
    refine lv_tableOut (tgt := 84) hx hb dX0_look_19 (xout hbad) (by decide) ?_
    exact xt_thr (ik := 41) (is := 98) (ic := 45) hx hb hl0 hown (by decide +kernel) (ht _ kcl_RX0_41) (ht _ kin_java_lang_IllegalArgumentException) hs5 ht hXN xT_A xN_A xot_A hXU hXV (hl.1.trans hml.symm) dX0_look_84 dX0_look_87 dX0_look_88 dX0_look_90 dX0_look_93 hout (Nat.le_of_ble_eq_true rfl) (Nat.le_of_ble_eq_true rfl) (Nat.le_of_ble_eq_true rfl) (Nat.le_of_ble_eq_true rfl) hlocks
  · exact absurd h0 (by decide)

set_option maxHeartbeats 4000000 in
set_option maxRecDepth 100000 in
/-- take, the segment goes on -/
theorem c_take_stay (l : Launch) (D : va_G) (A : Nat → Nat) (K : Nat → ClassId) (n : Nat) (U TH AG : Nat → Nat) (Z : Nat → Bool) (B : Nat → Nat) (TK : Nat) (hn : n ≤ 128) (hU : ∀ j, U j < 65536) (hT : ∀ j, TH j < 65536) (q j k : Nat) (hq : q < 6) (hB : B q = 96 + 16 * j + k) (hj : j < n) (hk : k < 15) (sz : Nat) : Met l yX0_take (xw yX0_take cX0_take 4 (some .int)) ({ frames := 4, cells := 0, slots := 0, locals := 85 }) (xk_M [.ref (A 0), .int (nI q)] D (xc_T K) (xc_W A K n U TH AG Z B TK) sz) (xk_Q (fun v => v = some (.int (nI (96 + 16 * j + k)))) D (xc_W A K n U TH AG Z B TK) (xc_W A K n (va_up U j (U j ||| 2 ^ k)) TH (va_up AG j (TK + 1)) (va_up Z j true) (va_up B q (96 + 16 * j + (k + 1))) (TK + 1))) 0 0 (va_A (xc_W A K n U TH AG Z B TK) sz) := by
  refine Met.ofW (cc := cX0_take) (maxL := 4) (ret := (some .int)) (by decide) rfl ?_
  intro p e s m args below meth c s₁ B0 hml hv
  obtain ⟨rfl, hsz, hP, hK, hD0⟩ := hv
  have hx := B0.exec
  have hb := B0.bytes
  have hr := B0.returns
  have ht : ∀ w ∈ xT, w.before _ s = true := fun w h => atoms_spec (ws := xw yX0_take cX0_take 4 (some .int)) B0.pre w (List.mem_cons_of_mem _ h)
  have hown : s.vm.findClass RX0 = some m.cls := findClass_of_methodNamed B0.named
  have hlocks := B0.notSynchronized
  have hl := lv_entry ([.ref (A 0), .int (nI q)]) (n := 4) (Nat.le_of_ble_eq_true rfl)
  rw [lg_entry_eq]
  generalize (lg_sl ([.ref (A 0), .int (nI q)]) ++ List.replicate (4 - (lg_sl ([.ref (A 0), .int (nI q)])).length) Slot.unset).toArray = ls at hl ⊢
  have hl : lv_has ls 4 [(0, .ref (A 0)), (1, .int (nI q))] := hl
  subst hsz
  have hD := hD0.self (sz := s.heap.size)
  have hA : ∀ q : Nat, s.heap.size ≤ q → va_A (xc_W A K n U TH AG Z B TK) s.heap.size q := fun q h => Or.inr h
  have hS : va_S (va_A (xc_W A K n U TH AG Z B TK) s.heap.size) s.heap s.heap [] := va_S.rf
  refine lv_iload_n hx hb dX0_take_0 rfl (lv_at hl 1 rfl) ?_
  refine xr_S (n := 1) (As := [.int (nI q)]) (rest := []) ⟨hx, hb, hml, hown, ht⟩ (c_isLog l (nI q)) (xg_S kml_RX0_37 kst_yX0_isLog kin_RX0 kco_yX0_isLog) ⟨rfl, rfl⟩ (by decide +kernel) ⟨Nat.le_of_ble_eq_true rfl, Nat.le_of_ble_eq_true rfl⟩ xk_preE rfl hl.1 rfl (Nat.le_of_ble_eq_true rfl) dX0_take_1 ⟨Nat.zero_le _, Nat.zero_le _⟩ (fun r1 e1 => ?_)
  have e1 : r1 = 1 := e1.elim (fun z => z.choose_spec.2.2) (fun z => absurd ⟨q, hq, rfl⟩ z.1)
  subst e1
  refine lv_if_ne (tgt := 17) hx hb dX0_take_4 (by decide) (fun h0 => ?_) (fun h0 => ?_)
  · refine lv_aload_n hx hb dX0_take_17 rfl (lv_at hl 0 rfl) ?_
    refine va_get (D := D) (ci := 0) (v := .ref (A 5)) (C := RX0) (T := TX0) (N := 7) hx hb ht xin_X0 hown hK hP 0 rfl rfl 5 (by decide) (ht _ kfl_RX0_27) (fun _ h9 => h9) rfl dX0_take_18 ?_
    refine lv_iload_n hx hb dX0_take_21 rfl (lv_at hl 1 rfl) ?_
    refine xa_ild hx hb hK hP 5 4 rfl rfl (v := nI (96 + 16 * j + k)) hq (by decide) (by show nI (B q) = _; rw [hB]) dX0_take_22 ?_
    refine lv_istore_n (lv' := [(2, .int (nI (96 + 16 * j + k))), (0, .ref (A 0)), (1, .int (nI q))]) hx hb dX0_take_23 rfl hl (by decide) rfl (fun ls hl => ?_)
    refine lv_aload_n hx hb dX0_take_24 rfl (lv_at hl 1 rfl) ?_
    refine lv_iload_n hx hb dX0_take_25 rfl (lv_at hl 0 rfl) ?_
    refine xr_V (n := 1) (As := [.int (nI (96 + 16 * j + k))]) (rest := []) ⟨hx, hb, hml, hown, ht⟩ (c_blockAfter l D A K n U TH AG Z B TK hn hU hT j k hj (by omega)) (xg_V kml_RX0_48 kim_yX0_blockAfter ksl_yX0_blockAfter kin_RX0 kco_yX0_blockAfter) ⟨rfl, rfl⟩ (by decide +kernel) ⟨Nat.le_of_ble_eq_true rfl, Nat.le_of_ble_eq_true rfl⟩ (xk_preV hP hK rfl rfl) rfl hl.1 rfl (Nat.le_of_ble_eq_true rfl) dX0_take_26 ⟨Nat.zero_le _, Nat.zero_le _⟩ (fun r2 e2 => ?_)
    have e2 : r2 = nI (96 + 16 * j + (k + 1)) := e2.elim (fun z => z.2) (fun z => absurd z.1 (by omega))
    subst e2
    refine lv_istore_n (lv' := [(3, .int (nI (96 + 16 * j + (k + 1)))), (2, .int (nI (96 + 16 * j + k))), (0, .ref (A 0)), (1, .int (nI q))]) hx hb dX0_take_29 rfl hl (by decide) rfl (fun ls hl => ?_)
    refine lv_iload_n hx hb dX0_take_30 rfl (lv_at hl 0 rfl) ?_
    refine lv_iconst (v := -1) hx hb dX0_take_31 (by decide) ?_
    refine lv_icmp_ne (tgt := 45) hx hb dX0_take_32 (by decide) (fun h3 => ?_) (fun h3 => ?_)
    · refine lv_aload_n hx hb dX0_take_45 rfl (lv_at hl 2 rfl) ?_
      refine lv_iload_n hx hb dX0_take_46 rfl (lv_at hl 1 rfl) ?_
      refine xr_M (n := 1) (As := [.int (nI (96 + 16 * j + k))]) (rest := []) ⟨hx, hb, hml, hown, ht⟩ (c_putInUse l D A K n U TH AG Z B TK hn j k hj (by omega) s.heap.size) (xg_V kml_RX0_56 kim_yX0_putInUse ksl_yX0_putInUse kin_RX0 kco_yX0_putInUse) ⟨rfl, rfl⟩ (by decide +kernel) ⟨Nat.le_of_ble_eq_true rfl, Nat.le_of_ble_eq_true rfl⟩ hP hK hD hS hA rfl rfl rfl rfl hl.1 rfl (Nat.le_of_ble_eq_true rfl) dX0_take_47 ⟨Nat.zero_le _, Nat.zero_le _⟩ (fun v8 H locs e8 hP hD hS => ?_)
      subst e8
      refine lv_aload_n hx hb dX0_take_50 rfl (lv_at hl 2 rfl) ?_
      refine lv_iload_n hx hb dX0_take_51 rfl (lv_at hl 3 rfl) ?_
      refine lv_iload_n hx hb dX0_take_52 rfl (lv_at hl 0 rfl) ?_
      refine xr_M (n := 2) (As := [.int (nI q), .int (nI (96 + 16 * j + (k + 1)))]) (rest := []) ⟨hx, hb, hml, hown, ht⟩ (c_moveLog l D A K n (va_up U j (U j ||| 2 ^ k)) TH (va_up AG j (TK + 1)) Z B (TK + 1) hn q (j) (k + 1) hq hj (by omega) H.size) (xg_V kml_RX0_60 kim_yX0_moveLog ksl_yX0_moveLog kin_RX0 kco_yX0_moveLog) ⟨rfl, rfl⟩ (by decide +kernel) ⟨Nat.le_of_ble_eq_true rfl, Nat.le_of_ble_eq_true rfl⟩ hP hK hD hS hA rfl rfl rfl rfl hl.1 rfl (Nat.le_of_ble_eq_true rfl) dX0_take_53 ⟨Nat.zero_le _, Nat.zero_le _⟩ (fun v9 H locs e9 hP hD hS => ?_)
      subst e9
      refine lv_iload_n hx hb dX0_take_56 rfl (lv_at hl 1 rfl) ?_
      exact W.iret (v := nI (96 + 16 * j + k)) hx hb hr (fun t ht hW => ⟨⟨_, rfl, rfl⟩, by rw [ht]; exact hP, hS.F ht⟩) hS.2.2 dX0_take_57
    · exact absurd h3 (xp_m1 (by omega))
  · exact absurd h0 (by decide)

set_option maxHeartbeats 4000000 in
set_option maxRecDepth 100000 in
/-- take, a segment is opened -/
theorem c_take_open (l : Launch) (D : va_G) (A : Nat → Nat) (K : Nat → ClassId) (n : Nat) (U TH AG : Nat → Nat) (Z : Nat → Bool) (B : Nat → Nat) (TK : Nat) (hn : n ≤ 128) (hU : ∀ j, U j < 65536) (hT : ∀ j, TH j < 65536) (q j k : Nat) (hq : q < 6) (hB : B q = 96 + 16 * j + k) (hj : j < n) (hk : k = 15) (o : Nat) (ho : o < n) (ho1 : xfr U TH Z o = true) (ho2 : ∀ i, i < o → xfr U TH Z i = false) (sz : Nat) : Met l yX0_take (xw yX0_take cX0_take 4 (some .int)) ({ frames := 4, cells := 0, slots := 0, locals := 85 }) (xk_M [.ref (A 0), .int (nI q)] D (xc_T K) (xc_W A K n U TH AG Z B TK) sz) (xk_Q (fun v => v = some (.int (nI (96 + 16 * j + k)))) D (xc_W A K n U TH AG Z B TK) (xc_W A K n (va_up U j (U j ||| 2 ^ k)) TH (va_up AG j (TK + 1)) (va_up Z o true) (va_up B q (96 + 16 * o + 0)) (TK + 1))) 0 0 (va_A (xc_W A K n U TH AG Z B TK) sz) := by
  refine Met.ofW (cc := cX0_take) (maxL := 4) (ret := (some .int)) (by decide) rfl ?_
  intro p e s m args below meth c s₁ B0 hml hv
  obtain ⟨rfl, hsz, hP, hK, hD0⟩ := hv
  have hx := B0.exec
  have hb := B0.bytes
  have hr := B0.returns
  have ht : ∀ w ∈ xT, w.before _ s = true := fun w h => atoms_spec (ws := xw yX0_take cX0_take 4 (some .int)) B0.pre w (List.mem_cons_of_mem _ h)
  have hown : s.vm.findClass RX0 = some m.cls := findClass_of_methodNamed B0.named
  have hlocks := B0.notSynchronized
  have hl := lv_entry ([.ref (A 0), .int (nI q)]) (n := 4) (Nat.le_of_ble_eq_true rfl)
  rw [lg_entry_eq]
  generalize (lg_sl ([.ref (A 0), .int (nI q)]) ++ List.replicate (4 - (lg_sl ([.ref (A 0), .int (nI q)])).length) Slot.unset).toArray = ls at hl ⊢
  have hl : lv_has ls 4 [(0, .ref (A 0)), (1, .int (nI q))] := hl
  subst hsz
  have hD := hD0.self (sz := s.heap.size)
  have hA : ∀ q : Nat, s.heap.size ≤ q → va_A (xc_W A K n U TH AG Z B TK) s.heap.size q := fun q h => Or.inr h
  have hS : va_S (va_A (xc_W A K n U TH AG Z B TK) s.heap.size) s.heap s.heap [] := va_S.rf
  refine lv_iload_n hx hb dX0_take_0 rfl (lv_at hl 1 rfl) ?_
  refine xr_S (n := 1) (As := [.int (nI q)]) (rest := []) ⟨hx, hb, hml, hown, ht⟩ (c_isLog l (nI q)) (xg_S kml_RX0_37 kst_yX0_isLog kin_RX0 kco_yX0_isLog) ⟨rfl, rfl⟩ (by decide +kernel) ⟨Nat.le_of_ble_eq_true rfl, Nat.le_of_ble_eq_true rfl⟩ xk_preE rfl hl.1 rfl (Nat.le_of_ble_eq_true rfl) dX0_take_1 ⟨Nat.zero_le _, Nat.zero_le _⟩ (fun r1 e1 => ?_)
  have e1 : r1 = 1 := e1.elim (fun z => z.choose_spec.2.2) (fun z => absurd ⟨q, hq, rfl⟩ z.1)
  subst e1
  refine lv_if_ne (tgt := 17) hx hb dX0_take_4 (by decide) (fun h0 => ?_) (fun h0 => ?_)
  · refine lv_aload_n hx hb dX0_take_17 rfl (lv_at hl 0 rfl) ?_
    refine va_get (D := D) (ci := 0) (v := .ref (A 5)) (C := RX0) (T := TX0) (N := 7) hx hb ht xin_X0 hown hK hP 0 rfl rfl 5 (by decide) (ht _ kfl_RX0_27) (fun _ h9 => h9) rfl dX0_take_18 ?_
    refine lv_iload_n hx hb dX0_take_21 rfl (lv_at hl 1 rfl) ?_
    refine xa_ild hx hb hK hP 5 4 rfl rfl (v := nI (96 + 16 * j + k)) hq (by decide) (by show nI (B q) = _; rw [hB]) dX0_take_22 ?_
    refine lv_istore_n (lv' := [(2, .int (nI (96 + 16 * j + k))), (0, .ref (A 0)), (1, .int (nI q))]) hx hb dX0_take_23 rfl hl (by decide) rfl (fun ls hl => ?_)
    refine lv_aload_n hx hb dX0_take_24 rfl (lv_at hl 1 rfl) ?_
    refine lv_iload_n hx hb dX0_take_25 rfl (lv_at hl 0 rfl) ?_
    refine xr_V (n := 1) (As := [.int (nI (96 + 16 * j + k))]) (rest := []) ⟨hx, hb, hml, hown, ht⟩ (c_blockAfter l D A K n U TH AG Z B TK hn hU hT j k hj (by omega)) (xg_V kml_RX0_48 kim_yX0_blockAfter ksl_yX0_blockAfter kin_RX0 kco_yX0_blockAfter) ⟨rfl, rfl⟩ (by decide +kernel) ⟨Nat.le_of_ble_eq_true rfl, Nat.le_of_ble_eq_true rfl⟩ (xk_preV hP hK rfl rfl) rfl hl.1 rfl (Nat.le_of_ble_eq_true rfl) dX0_take_26 ⟨Nat.zero_le _, Nat.zero_le _⟩ (fun r2 e2 => ?_)
    have e2 : r2 = nI (96 + 16 * o + 0) := by
      rcases e2 with z | ⟨-, ⟨o9, h9, f1, f2, rfl⟩ | ⟨f1, -⟩⟩
      · exact absurd z.1 (by omega)
      · rcases Nat.lt_trichotomy o o9 with z | z | z
        · rw [f2 o z] at ho1; cases ho1
        · rw [z]; rfl
        · rw [ho2 o9 z] at f1; cases f1
      · rw [f1 o ho] at ho1; cases ho1
    subst e2
    refine lv_istore_n (lv' := [(3, .int (nI (96 + 16 * o + 0))), (2, .int (nI (96 + 16 * j + k))), (0, .ref (A 0)), (1, .int (nI q))]) hx hb dX0_take_29 rfl hl (by decide) rfl (fun ls hl => ?_)
    refine lv_iload_n hx hb dX0_take_30 rfl (lv_at hl 0 rfl) ?_
    refine lv_iconst (v := -1) hx hb dX0_take_31 (by decide) ?_
    refine lv_icmp_ne (tgt := 45) hx hb dX0_take_32 (by decide) (fun h3 => ?_) (fun h3 => ?_)
    · refine lv_aload_n hx hb dX0_take_45 rfl (lv_at hl 2 rfl) ?_
      refine lv_iload_n hx hb dX0_take_46 rfl (lv_at hl 1 rfl) ?_
      refine xr_M (n := 1) (As := [.int (nI (96 + 16 * j + k))]) (rest := []) ⟨hx, hb, hml, hown, ht⟩ (c_putInUse l D A K n U TH AG Z B TK hn j k hj (by omega) s.heap.size) (xg_V kml_RX0_56 kim_yX0_putInUse ksl_yX0_putInUse kin_RX0 kco_yX0_putInUse) ⟨rfl, rfl⟩ (by decide +kernel) ⟨Nat.le_of_ble_eq_true rfl, Nat.le_of_ble_eq_true rfl⟩ hP hK hD hS hA rfl rfl rfl rfl hl.1 rfl (Nat.le_of_ble_eq_true rfl) dX0_take_47 ⟨Nat.zero_le _, Nat.zero_le _⟩ (fun v8 H locs e8 hP hD hS => ?_)
      subst e8
      refine lv_aload_n hx hb dX0_take_50 rfl (lv_at hl 2 rfl) ?_
      refine lv_iload_n hx hb dX0_take_51 rfl (lv_at hl 3 rfl) ?_
      refine lv_iload_n hx hb dX0_take_52 rfl (lv_at hl 0 rfl) ?_
      refine xr_M (n := 2) (As := [.int (nI q), .int (nI (96 + 16 * o + 0))]) (rest := []) ⟨hx, hb, hml, hown, ht⟩ (c_moveLog l D A K n (va_up U j (U j ||| 2 ^ k)) TH (va_up AG j (TK + 1)) Z B (TK + 1) hn q (o) (0) hq ho (by omega) H.size) (xg_V kml_RX0_60 kim_yX0_moveLog ksl_yX0_moveLog kin_RX0 kco_yX0_moveLog) ⟨rfl, rfl⟩ (by decide +kernel) ⟨Nat.le_of_ble_eq_true rfl, Nat.le_of_ble_eq_true rfl⟩ hP hK hD hS hA rfl rfl rfl rfl hl.1 rfl (Nat.le_of_ble_eq_true rfl) dX0_take_53 ⟨Nat.zero_le _, Nat.zero_le _⟩ (fun v9 H locs e9 hP hD hS => ?_)
      subst e9
      refine lv_iload_n hx hb dX0_take_56 rfl (lv_at hl 1 rfl) ?_
      exact W.iret (v := nI (96 + 16 * j + k)) hx hb hr (fun t ht hW => ⟨⟨_, rfl, rfl⟩, by rw [ht]; exact hP, hS.F ht⟩) hS.2.2 dX0_take_57
    · exact absurd h3 (xp_m1 (by omega))
  · exact absurd h0 (by decide)

set_option maxHeartbeats 4000000 in
set_option maxRecDepth 100000 in
/-- take: none to open -/
theorem c_take_full (l : Launch) (D : va_G) (A : Nat → Nat) (K : Nat → ClassId) (n : Nat) (U TH AG : Nat → Nat) (Z : Nat → Bool) (B : Nat → Nat) (TK : Nat) (hn : n ≤ 128) (hU : ∀ j, U j < 65536) (hT : ∀ j, TH j < 65536) (q j k : Nat) (hq : q < 6) (hB : B q = 96 + 16 * j + k) (hj : j < n) (hk : k = 15) (hf : ∀ i, i < n → xfr U TH Z i = false) (sz0 : Nat) (sa : Nat → Nat) (hl0 : l.stackTraces = false) : vx_Met l yX0_take (xw yX0_take cX0_take 4 (some .int)) ({ frames := 6, cells := 1, slots := 6, locals := 90 }) (xk_X [.ref (A 0), .int (nI q)] D (xc_T K) (xc_W A K n U TH AG Z B TK) sz0 sa) xt_i (xt_X xIS) 1 6 (fun _ => False) := by
  refine vx_ofW (cc := cX0_take) (maxL := 4) (ret := (some .int)) (by decide) rfl ?_
  intro p e s m args below meth c s₁ B0 hml hout hv
  obtain ⟨rfl, hP, hK, hX⟩ := hv
  obtain ⟨hXU, hXV, hXN, hs0, hs1, hs2, hs3, hs4, hs5, -⟩ := id hX
  have hx := B0.exec
  have hb := B0.bytes
  have hr := B0.returns
  have ht : ∀ w ∈ xT, w.before _ s = true := fun w h => atoms_spec (ws := xw yX0_take cX0_take 4 (some .int)) B0.pre w (List.mem_cons_of_mem _ h)
  have hown : s.vm.findClass RX0 = some m.cls := findClass_of_methodNamed B0.named
  have hlocks := B0.notSynchronized
  have hl := lv_entry ([.ref (A 0), .int (nI q)]) (n := 4) (Nat.le_of_ble_eq_true rfl)
  rw [lg_entry_eq]
  generalize (lg_sl ([.ref (A 0), .int (nI q)]) ++ List.replicate (4 - (lg_sl ([.ref (A 0), .int (nI q)])).length) Slot.unset).toArray = ls at hl ⊢
  have hl : lv_has ls 4 [(0, .ref (A 0)), (1, .int (nI q))] := hl
  refine lv_iload_n hx hb dX0_take_0 rfl (lv_at hl 1 rfl) ?_
  refine xr_S (n := 1) (As := [.int (nI q)]) (rest := []) ⟨hx, hb, hml, hown, ht⟩ (c_isLog l (nI q)) (xg_S kml_RX0_37 kst_yX0_isLog kin_RX0 kco_yX0_isLog) ⟨rfl, rfl⟩ (by decide +kernel) ⟨Nat.le_of_ble_eq_true rfl, Nat.le_of_ble_eq_true rfl⟩ xk_preE rfl hl.1 rfl (Nat.le_of_ble_eq_true rfl) dX0_take_1 ⟨Nat.zero_le _, Nat.zero_le _⟩ (fun r1 e1 => ?_)
  have e1 : r1 = 1 := e1.elim (fun z => z.choose_spec.2.2) (fun z => absurd ⟨q, hq, rfl⟩ z.1)
  subst e1
  refine lv_if_ne (tgt := 17) hx hb dX0_take_4 (by decide) (fun h0 => ?_) (fun h0 => ?_)
  · refine lv_aload_n hx hb dX0_take_17 rfl (lv_at hl 0 rfl) ?_
    refine va_get (D := D) (ci := 0) (v := .ref (A 5)) (C := RX0) (T := TX0) (N := 7) hx hb ht xin_X0 hown hK hP 0 rfl rfl 5 (by decide) (ht _ kfl_RX0_27) (fun _ h9 => h9) rfl dX0_take_18 ?_
    refine lv_iload_n hx hb dX0_take_21 rfl (lv_at hl 1 rfl) ?_
    refine xa_ild hx hb hK hP 5 4 rfl rfl (v := nI (96 + 16 * j + k)) hq (by decide) (by show nI (B q) = _; rw [hB]) dX0_take_22 ?_
    refine lv_istore_n (lv' := [(2, .int (nI (96 + 16 * j + k))), (0, .ref (A 0)), (1, .int (nI q))]) hx hb dX0_take_23 rfl hl (by decide) rfl (fun ls hl => ?_)
    refine lv_aload_n hx hb dX0_take_24 rfl (lv_at hl 1 rfl) ?_
    refine lv_iload_n hx hb dX0_take_25 rfl (lv_at hl 0 rfl) ?_
    refine xr_V (n := 1) (As := [.int (nI (96 + 16 * j + k))]) (rest := []) ⟨hx, hb, hml, hown, ht⟩ (c_blockAfter l D A K n U TH AG Z B TK hn hU hT j k hj (by omega)) (xg_V kml_RX0_48 kim_yX0_blockAfter ksl_yX0_blockAfter kin_RX0 kco_yX0_blockAfter) ⟨rfl, rfl⟩ (by decide +kernel) ⟨Nat.le_of_ble_eq_true rfl, Nat.le_of_ble_eq_true rfl⟩ (xk_preV hP hK rfl rfl) rfl hl.1 rfl (Nat.le_of_ble_eq_true rfl) dX0_take_26 ⟨Nat.zero_le _, Nat.zero_le _⟩ (fun r2 e2 => ?_)
    have e2 : r2 = -1 := by
      rcases e2 with z | ⟨-, ⟨o9, h9, f1, f2, rfl⟩ | ⟨f1, rfl⟩⟩
      · exact absurd z.1 (by omega)
      · rw [hf o9 h9] at f1; cases f1
      · rfl
    subst e2
    refine lv_istore_n (lv' := [(3, .int (-1)), (2, .int (nI (96 + 16 * j + k))), (0, .ref (A 0)), (1, .int (nI q))]) hx hb dX0_take_29 rfl hl (by decide) rfl (fun ls hl => ?_)
    refine lv_iload_n hx hb dX0_take_30 rfl (lv_at hl 0 rfl) ?_
    refine lv_iconst (v := -1) hx hb dX0_take_31 (by decide) ?_
    refine lv_icmp_ne (tgt := 45) hx hb dX0_take_32 (by decide) (fun h3 => ?_) (fun h3 => ?_)
    · exact absurd rfl h3
    · exact xt_thr (ik := 51) (is := 53) (ic := 55) hx hb hl0 hown (by decide +kernel) (ht _ kcl_RX0_51) (ht _ kin_java_lang_IllegalStateException) hs1 ht hXN xT_S xN_S xot_S hXU hXV (hl.1.trans hml.symm) dX0_take_35 dX0_take_38 dX0_take_39 dX0_take_41 dX0_take_44 hout (Nat.le_of_ble_eq_true rfl) (Nat.le_of_ble_eq_true rfl) (Nat.le_of_ble_eq_true rfl) (Nat.le_of_ble_eq_true rfl) hlocks
  · exact absurd h0 (by decide)

set_option maxHeartbeats 4000000 in
set_option maxRecDepth 100000 in
/-- take: no such log -/
theorem c_take_bad (l : Launch) (D : va_G) (A : Nat → Nat) (K : Nat → ClassId) (n : Nat) (U TH AG : Nat → Nat) (Z : Nat → Bool) (B : Nat → Nat) (TK : Nat) (x : Int32) (hbad : ¬ ∃ j : Nat, j < 6 ∧ x = nI j) (sz0 : Nat) (sa : Nat → Nat) (hl0 : l.stackTraces = false) : vx_Met l yX0_take (xw yX0_take cX0_take 4 (some .int)) ({ frames := 6, cells := 1, slots := 6, locals := 90 }) (xk_X [.ref (A 0), .int x] D (xc_T K) (xc_W A K n U TH AG Z B TK) sz0 sa) xt_i (xt_X xIA) 1 6 (fun _ => False) := by
  refine vx_ofW (cc := cX0_take) (maxL := 4) (ret := (some .int)) (by decide) rfl ?_
  intro p e s m args below meth c s₁ B0 hml hout hv
  obtain ⟨rfl, hP, hK, hX⟩ := hv
  obtain ⟨hXU, hXV, hXN, hs0, hs1, hs2, hs3, hs4, hs5, -⟩ := id hX
  have hx := B0.exec
  have hb := B0.bytes
  have hr := B0.returns
  have ht : ∀ w ∈ xT, w.before _ s = true := fun w h => atoms_spec (ws := xw yX0_take cX0_take 4 (some .int)) B0.pre w (List.mem_cons_of_mem _ h)
  have hown : s.vm.findClass RX0 = some m.cls := findClass_of_methodNamed B0.named
  have hlocks := B0.notSynchronized
  have hl := lv_entry ([.ref (A 0), .int x]) (n := 4) (Nat.le_of_ble_eq_true rfl)
  rw [lg_entry_eq]
  generalize (lg_sl ([.ref (A 0), .int x]) ++ List.replicate (4 - (lg_sl ([.ref (A 0), .int x])).length) Slot.unset).toArray = ls at hl ⊢
  have hl : lv_has ls 4 [(0, .ref (A 0)), (1, .int x)] := hl
  refine lv_iload_n hx hb dX0_take_0 rfl (lv_at hl 1 rfl) ?_
  refine xr_S (n := 1) (As := [.int x]) (rest := []) ⟨hx, hb, hml, hown, ht⟩ (c_isLog l x) (xg_S kml_RX0_37 kst_yX0_isLog kin_RX0 kco_yX0_isLog) ⟨rfl, rfl⟩ (by decide +kernel) ⟨Nat.le_of_ble_eq_true rfl, Nat.le_of_ble_eq_true rfl⟩ xk_preE rfl hl.1 rfl (Nat.le_of_ble_eq_true rfl) dX0_take_1 ⟨Nat.zero_le _, Nat.zero_le _⟩ (fun r1 e1 => ?_)
  have e1 : r1 = 0 := e1.elim (fun z => absurd ⟨z.choose, z.choose_spec.1, z.choose_spec.2.1⟩ hbad) (fun z => z.2)
  subst e1
  refine lv_if_ne (tgt := 17) hx hb dX0_take_4 (by decide) (fun h0 => ?_) (fun h0 => ?_)
  · exact absurd rfl h0
  · exact xt_thr (ik := 41) (is := 43) (ic := 45) hx hb hl0 hown (by decide +kernel) (ht _ kcl_RX0_41) (ht _ kin_java_lang_IllegalArgumentException) hs0 ht hXN xT_A xN_A xot_A hXU hXV (hl.1.trans hml.symm) dX0_take_7 dX0_take_10 dX0_take_11 dX0_take_13 dX0_take_16 hout (Nat.le_of_ble_eq_true rfl) (Nat.le_of_ble_eq_true rfl) (Nat.le_of_ble_eq_true rfl) (Nat.le_of_ble_eq_true rfl) hlocks
