theorem xp_m1 {n : Nat} (h : n < 2 ^ 31) : ¬ nI n = -1 := fun z => nI_pos h (by rw [z]; decide)
set_option maxHeartbeats 4000000 in
set_option maxRecDepth 100000 in
/-- Integer.bitCount -/
theorem c_bitCount (l : Launch) (M : Nat) (hM : M < 65536) : Met l yJ6_bitCount_0f7a4 (xw yJ6_bitCount_0f7a4 cJ6_bitCount_0f7a4 1 (some .int)) ({ frames := 0, cells := 0, slots := 0, locals := 0 }) (xk_E [.int (nI M)]) (vp_Si (fun r => r = nI (xpc M))) 0 0 (fun _ => False) := by
  refine Met.ofW (cc := cJ6_bitCount_0f7a4) (maxL := 1) (ret := (some .int)) (by decide) rfl ?_
  intro p e s m args below meth c s₁ B0 hml hv
  obtain rfl := hv
  have hx := B0.exec
  have hb := B0.bytes
  have hr := B0.returns
  have ht : ∀ w ∈ xT, w.before _ s = true := fun w h => atoms_spec (ws := xw yJ6_bitCount_0f7a4 cJ6_bitCount_0f7a4 1 (some .int)) B0.pre w (List.mem_cons_of_mem _ h)
  have hown : s.vm.findClass RJ6 = some m.cls := findClass_of_methodNamed B0.named
  have hlocks := B0.notSynchronized
  have hl := lv_entry ([.int (nI M)]) (n := 1) (Nat.le_of_ble_eq_true rfl)
  rw [lg_entry_eq]
  generalize (lg_sl ([.int (nI M)]) ++ List.replicate (1 - (lg_sl ([.int (nI M)])).length) Slot.unset).toArray = ls at hl ⊢
  have hl : lv_has ls 1 [(0, .int (nI M))] := hl
  have g1 := xg1_lt hM
  have g2 := xg2_lt hM
  have g3 := xg3_lt hM
  have g4 := xg4_lt hM
  have g5 := xg5_lt hM
  refine lv_iload_n hx hb dJ6_bitCount_0f7a4_0 rfl (lv_at hl 0 rfl) ?_
  refine lv_iload_n hx hb dJ6_bitCount_0f7a4_1 rfl (lv_at hl 0 rfl) ?_
  refine lv_iconst (v := 1) hx hb dJ6_bitCount_0f7a4_2 (by decide) ?_
  refine lv_iushr (v := nI (M / 2)) hx hb dJ6_bitCount_0f7a4_3 (pk_ushrN (by omega) 1 1 (by decide)) ?_
  refine lv_ldcw hx hb hown (ht _ kct_RJ6_265) dJ6_bitCount_0f7a4_4 ?_
  refine lv_iand hx hb dJ6_bitCount_0f7a4_7 ?_
  refine xa_top (y := nI (M / 2 &&& 1431655765)) (xand _ 1431655765) ?_
  refine lv_isub hx hb dJ6_bitCount_0f7a4_8 ?_
  refine xa_top (y := nI (xg1 M)) (pk_sub (Nat.le_trans Nat.and_le_left (by omega))) ?_
  refine lv_istore_n (lv' := [(0, .int (nI (xg1 M)))]) hx hb dJ6_bitCount_0f7a4_9 rfl hl (by decide) rfl (fun ls hl => ?_)
  refine lv_iload_n hx hb dJ6_bitCount_0f7a4_10 rfl (lv_at hl 0 rfl) ?_
  refine lv_ldcw hx hb hown (ht _ kct_RJ6_266) dJ6_bitCount_0f7a4_11 ?_
  refine lv_iand hx hb dJ6_bitCount_0f7a4_14 ?_
  refine xa_top (y := nI (xg1 M &&& 858993459)) (xand _ 858993459) ?_
  refine lv_iload_n hx hb dJ6_bitCount_0f7a4_15 rfl (lv_at hl 0 rfl) ?_
  refine lv_iconst (v := 2) hx hb dJ6_bitCount_0f7a4_16 (by decide) ?_
  refine lv_iushr (v := nI (xg1 M / 4)) hx hb dJ6_bitCount_0f7a4_17 (pk_ushrN (by omega) 2 2 (by decide)) ?_
  refine lv_ldcw hx hb hown (ht _ kct_RJ6_266) dJ6_bitCount_0f7a4_18 ?_
  refine lv_iand hx hb dJ6_bitCount_0f7a4_21 ?_
  refine xa_top (y := nI (xg1 M / 4 &&& 858993459)) (xand _ 858993459) ?_
  refine lv_iadd hx hb dJ6_bitCount_0f7a4_22 ?_
  refine xa_top (y := nI (xg2 M)) (nI_add _ _) ?_
  refine lv_istore_n (lv' := [(0, .int (nI (xg2 M)))]) hx hb dJ6_bitCount_0f7a4_23 rfl hl (by decide) rfl (fun ls hl => ?_)
  refine lv_iload_n hx hb dJ6_bitCount_0f7a4_24 rfl (lv_at hl 0 rfl) ?_
  refine lv_iload_n hx hb dJ6_bitCount_0f7a4_25 rfl (lv_at hl 0 rfl) ?_
  refine lv_iconst (v := 4) hx hb dJ6_bitCount_0f7a4_26 (by decide) ?_
  refine lv_iushr (v := nI (xg2 M / 16)) hx hb dJ6_bitCount_0f7a4_27 (pk_ushrN (by omega) 4 4 (by decide)) ?_
  refine lv_iadd hx hb dJ6_bitCount_0f7a4_28 ?_
  refine xa_top (y := nI (xg2 M + xg2 M / 16)) (nI_add _ _) ?_
  refine lv_ldcw hx hb hown (ht _ kct_RJ6_267) dJ6_bitCount_0f7a4_29 ?_
  refine lv_iand hx hb dJ6_bitCount_0f7a4_32 ?_
  refine xa_top (y := nI (xg3 M)) (xand _ 252645135) ?_
  refine lv_istore_n (lv' := [(0, .int (nI (xg3 M)))]) hx hb dJ6_bitCount_0f7a4_33 rfl hl (by decide) rfl (fun ls hl => ?_)
  refine lv_iload_n hx hb dJ6_bitCount_0f7a4_34 rfl (lv_at hl 0 rfl) ?_
  refine lv_iload_n hx hb dJ6_bitCount_0f7a4_35 rfl (lv_at hl 0 rfl) ?_
  refine lv_bipush (v := 8) hx hb dJ6_bitCount_0f7a4_36 (by decide) ?_
  refine lv_iushr (v := nI (xg3 M / 256)) hx hb dJ6_bitCount_0f7a4_38 (pk_ushrN (by omega) 8 8 (by decide)) ?_
  refine lv_iadd hx hb dJ6_bitCount_0f7a4_39 ?_
  refine xa_top (y := nI (xg4 M)) (nI_add _ _) ?_
  refine lv_istore_n (lv' := [(0, .int (nI (xg4 M)))]) hx hb dJ6_bitCount_0f7a4_40 rfl hl (by decide) rfl (fun ls hl => ?_)
  refine lv_iload_n hx hb dJ6_bitCount_0f7a4_41 rfl (lv_at hl 0 rfl) ?_
  refine lv_iload_n hx hb dJ6_bitCount_0f7a4_42 rfl (lv_at hl 0 rfl) ?_
  refine lv_bipush (v := 16) hx hb dJ6_bitCount_0f7a4_43 (by decide) ?_
  refine lv_iushr (v := nI (xg4 M / 65536)) hx hb dJ6_bitCount_0f7a4_45 (pk_ushrN (by omega) 16 16 (by decide)) ?_
  refine lv_iadd hx hb dJ6_bitCount_0f7a4_46 ?_
  refine xa_top (y := nI (xg5 M)) (nI_add _ _) ?_
  refine lv_istore_n (lv' := [(0, .int (nI (xg5 M)))]) hx hb dJ6_bitCount_0f7a4_47 rfl hl (by decide) rfl (fun ls hl => ?_)
  refine lv_iload_n hx hb dJ6_bitCount_0f7a4_48 rfl (lv_at hl 0 rfl) ?_
  refine lv_bipush (v := 63) hx hb dJ6_bitCount_0f7a4_49 (by decide) ?_
  refine lv_iand hx hb dJ6_bitCount_0f7a4_51 ?_
  refine xa_top (y := nI (xpc M)) ((xand _ 63).trans (congrArg nI (xg_pc hM))) ?_
  exact W.iret (v := nI (xpc M)) hx hb hr (fun t ht hW => ⟨nI (xpc M), rfl, rfl, ht⟩) (fun _ h => by cases h) dJ6_bitCount_0f7a4_52

set_option maxHeartbeats 4000000 in
set_option maxRecDepth 100000 in
/-- isFree -/
theorem c_isFree (l : Launch) (D : va_G) (A : Nat → Nat) (K : Nat → ClassId) (n : Nat) (U TH AG : Nat → Nat) (Z : Nat → Bool) (B : Nat → Nat) (TK : Nat) (hn : n ≤ 128) (hU : ∀ j, U j < 65536) (hT : ∀ j, TH j < 65536) (j : Nat) (hj : j < n) : Met l yX0_isFree (xw yX0_isFree cX0_isFree 2 (some .boolean)) ({ frames := 1, cells := 0, slots := 0, locals := 21 }) (xk_P [.ref (A 0), .int (nI j)] D (xc_T K) (xc_W A K n U TH AG Z B TK)) (vp_Si (fun r => r = xb (xfr U TH Z j))) 0 0 (fun _ => False) := by
  refine Met.ofW (cc := cX0_isFree) (maxL := 2) (ret := (some .boolean)) (by decide) rfl ?_
  intro p e s m args below meth c s₁ B0 hml hv
  obtain ⟨rfl, hP, hK⟩ := hv
  have hx := B0.exec
  have hb := B0.bytes
  have hr := B0.returns
  have ht : ∀ w ∈ xT, w.before _ s = true := fun w h => atoms_spec (ws := xw yX0_isFree cX0_isFree 2 (some .boolean)) B0.pre w (List.mem_cons_of_mem _ h)
  have hown : s.vm.findClass RX0 = some m.cls := findClass_of_methodNamed B0.named
  have hlocks := B0.notSynchronized
  have hl := lv_entry ([.ref (A 0), .int (nI j)]) (n := 2) (Nat.le_of_ble_eq_true rfl)
  rw [lg_entry_eq]
  generalize (lg_sl ([.ref (A 0), .int (nI j)]) ++ List.replicate (2 - (lg_sl ([.ref (A 0), .int (nI j)])).length) Slot.unset).toArray = ls at hl ⊢
  have hl : lv_has ls 2 [(0, .ref (A 0)), (1, .int (nI j))] := hl
  refine lv_aload_n hx hb dX0_isFree_0 rfl (lv_at hl 0 rfl) ?_
  refine lv_iload_n hx hb dX0_isFree_1 rfl (lv_at hl 1 rfl) ?_
  refine xr_V (n := 1) (As := [.int (nI j)]) (rest := []) ⟨hx, hb, hml, hown, ht⟩ (c_isSegment l D A K n U TH AG Z B TK (nI j) hn) (xg_V kml_RX0_93 kim_yX0_isSegment ksl_yX0_isSegment kin_RX0 kco_yX0_isSegment) ⟨rfl, rfl⟩ (by decide +kernel) ⟨Nat.le_of_ble_eq_true rfl, Nat.le_of_ble_eq_true rfl⟩ (xk_preV hP hK rfl rfl) rfl hl.1 rfl (Nat.le_of_ble_eq_true rfl) dX0_isFree_2 ⟨Nat.zero_le _, Nat.zero_le _⟩ (fun r1 e1 => ?_)
  have e1 : r1 = 1 := e1.elim (fun q => q.choose_spec.2.2) (fun q => absurd ⟨j, hj, rfl⟩ q.1)
  subst e1
  refine lv_if_eq (tgt := 39) hx hb dX0_isFree_5 (by decide) (fun h0 => ?_) (fun h0 => ?_)
  · exact absurd h0 (by decide)
  · refine lv_aload_n hx hb dX0_isFree_8 rfl (lv_at hl 0 rfl) ?_
    refine va_get (D := D) (ci := 0) (v := .ref (A 1)) (C := RX0) (T := TX0) (N := 7) hx hb ht xin_X0 hown hK hP 0 rfl rfl 1 (by decide) (ht _ kfl_RX0_13) (fun _ h9 => h9) rfl dX0_isFree_9 ?_
    refine lv_iload_n hx hb dX0_isFree_12 rfl (lv_at hl 1 rfl) ?_
    refine xa_ild hx hb hK hP 1 0 rfl rfl (v := nI (U j)) hj (by omega) rfl dX0_isFree_13 ?_
    refine lv_if_ne (tgt := 39) hx hb dX0_isFree_14 (by decide) (fun h1 => ?_) (fun h1 => ?_)
    · refine lv_iconst (v := 0) hx hb dX0_isFree_39 (by decide) ?_
      exact W.zret (v := 0) (ty := .boolean) hx hb hr (by decide) (fun t ht hW => ⟨0, rfl, (by rw [nI_0iff (hU j)] at h1; simp [xfr, h1, xb]), ht⟩) (fun _ h => by cases h) dX0_isFree_40
    · rw [nI_0iff (hU j)] at h1
      refine lv_aload_n hx hb dX0_isFree_17 rfl (lv_at hl 0 rfl) ?_
      refine va_get (D := D) (ci := 0) (v := .ref (A 2)) (C := RX0) (T := TX0) (N := 7) hx hb ht xin_X0 hown hK hP 0 rfl rfl 2 (by decide) (ht _ kfl_RX0_17) (fun _ h9 => h9) rfl dX0_isFree_18 ?_
      refine lv_iload_n hx hb dX0_isFree_21 rfl (lv_at hl 1 rfl) ?_
      refine xa_ild hx hb hK hP 2 1 rfl rfl (v := nI (TH j)) hj (by omega) rfl dX0_isFree_22 ?_
      refine lv_if_ne (tgt := 39) hx hb dX0_isFree_23 (by decide) (fun h2 => ?_) (fun h2 => ?_)
      · refine lv_iconst (v := 0) hx hb dX0_isFree_39 (by decide) ?_
        exact W.zret (v := 0) (ty := .boolean) hx hb hr (by decide) (fun t ht hW => ⟨0, rfl, (by rw [nI_0iff (hT j)] at h2; simp [xfr, h2, xb]), ht⟩) (fun _ h => by cases h) dX0_isFree_40
      · rw [nI_0iff (hT j)] at h2
        refine lv_aload_n hx hb dX0_isFree_26 rfl (lv_at hl 0 rfl) ?_
        refine va_get (D := D) (ci := 0) (v := .ref (A 4)) (C := RX0) (T := TX0) (N := 7) hx hb ht xin_X0 hown hK hP 0 rfl rfl 4 (by decide) (ht _ kfl_RX0_23) (fun _ h9 => h9) rfl dX0_isFree_27 ?_
        refine lv_iload_n hx hb dX0_isFree_30 rfl (lv_at hl 1 rfl) ?_
        refine xa_zld hx hb hK hP 4 3 rfl rfl (v := xb (Z j)) hj (by omega) rfl dX0_isFree_31 ?_
        refine lv_if_ne (tgt := 39) hx hb dX0_isFree_32 (by decide) (fun h3 => ?_) (fun h3 => ?_)
        · refine lv_iconst (v := 0) hx hb dX0_isFree_39 (by decide) ?_
          exact W.zret (v := 0) (ty := .boolean) hx hb hr (by decide) (fun t ht hW => ⟨0, rfl, (by rw [xb_n0] at h3; simp [xfr, h3, xb]), ht⟩) (fun _ h => by cases h) dX0_isFree_40
        · refine lv_iconst (v := 1) hx hb dX0_isFree_35 (by decide) ?_
          refine lv_goto (tgt := 40) hx hb dX0_isFree_36 (by decide) ?_
          exact W.zret (v := 1) (ty := .boolean) hx hb hr (by decide) (fun t ht hW => ⟨1, rfl, (by rw [xb_0] at h3; simp [xfr, h1, h2, h3, xb]), ht⟩) (fun _ h => by cases h) dX0_isFree_40

set_option maxHeartbeats 4000000 in
set_option maxRecDepth 100000 in
/-- lowestFree -/
theorem c_lowestFree (l : Launch) (D : va_G) (A : Nat → Nat) (K : Nat → ClassId) (n : Nat) (U TH AG : Nat → Nat) (Z : Nat → Bool) (B : Nat → Nat) (TK : Nat) (hn : n ≤ 128) (hU : ∀ j, U j < 65536) (hT : ∀ j, TH j < 65536) : Met l yX0_lowestFree (xw yX0_lowestFree cX0_lowestFree 2 (some .int)) ({ frames := 2, cells := 0, slots := 0, locals := 42 }) (xk_P [.ref (A 0)] D (xc_T K) (xc_W A K n U TH AG Z B TK)) (vp_Si (fun r => (∃ j : Nat, j < n ∧ xfr U TH Z j = true ∧ (∀ i, i < j → xfr U TH Z i = false) ∧ r = nI j) ∨ ((∀ i, i < n → xfr U TH Z i = false) ∧ r = -1))) 0 0 (fun _ => False) := by
  refine Met.ofW (cc := cX0_lowestFree) (maxL := 2) (ret := (some .int)) (by decide) rfl ?_
  intro p e s m args below meth c s₁ B0 hml hv
  obtain ⟨rfl, hP, hK⟩ := hv
  have hx := B0.exec
  have hb := B0.bytes
  have hr := B0.returns
  have ht : ∀ w ∈ xT, w.before _ s = true := fun w h => atoms_spec (ws := xw yX0_lowestFree cX0_lowestFree 2 (some .int)) B0.pre w (List.mem_cons_of_mem _ h)
  have hown : s.vm.findClass RX0 = some m.cls := findClass_of_methodNamed B0.named
  have hlocks := B0.notSynchronized
  have hl := lv_entry ([.ref (A 0)]) (n := 2) (Nat.le_of_ble_eq_true rfl)
  rw [lg_entry_eq]
  generalize (lg_sl ([.ref (A 0)]) ++ List.replicate (2 - (lg_sl ([.ref (A 0)])).length) Slot.unset).toArray = ls at hl ⊢
  have hl : lv_has ls 2 [(0, .ref (A 0))] := hl
  have loop : ∀ (f i : Nat), i ≤ n → n + 1 ≤ i + f → (∀ q, q < i → xfr U TH Z q = false) → ∀ ls : Array Slot, lv_has ls 2 [(1, .int (nI i)), (0, .ref (A 0))] → W p l e (headSpec (xw yX0_lowestFree cX0_lowestFree 2 (some .int)) ({ frames := 2, cells := 0, slots := 0, locals := 42 })).room s m ([.ref (A 0)] : List Value).toArray below meth c s.heap [] 0 0 (MQ below (vp_Si (fun r => (∃ j : Nat, j < n ∧ xfr U TH Z j = true ∧ (∀ i, i < j → xfr U TH Z i = false) ∧ r = nI j) ∨ ((∀ i, i < n → xfr U TH Z i = false) ∧ r = -1))) ([.ref (A 0)] : List Value).toArray s 0 0 (fun _ => False)) (F0 m 2 ls []) := by
    intro f
    induction f with
    | zero => intro i h1 h2; exact absurd h2 (by omega)
    | succ f ih =>
      intro i hi hf hc ls hl
      refine lv_iload_n hx hb dX0_lowestFree_2 rfl (lv_at hl 0 rfl) ?_
      refine lv_aload_n hx hb dX0_lowestFree_3 rfl (lv_at hl 1 rfl) ?_
      refine va_get (D := D) (ci := 0) (v := .int (nI n)) (C := RX0) (T := TX0) (N := 7) hx hb ht xin_X0 hown hK hP 0 rfl rfl 0 (by decide) (ht _ kfl_RX0_9) (fun _ h9 => h9) rfl dX0_lowestFree_4 ?_
      refine lv_icmp_ge (tgt := 26) hx hb dX0_lowestFree_7 (by decide) (fun h1 => ?_) (fun h1 => ?_)
      · have hin : i = n := by
          rcases Nat.lt_or_ge i n with q | q
          · exact absurd h1 (nI_ge q (by omega))
          · omega
        refine lv_iconst (v := -1) hx hb dX0_lowestFree_26 (by decide) ?_
        exact W.iret (v := (-1)) hx hb hr (fun t ht hW => ⟨(-1), rfl, Or.inr ⟨fun q hq => hc q (by omega), rfl⟩, ht⟩) (fun _ h => by cases h) dX0_lowestFree_27
      · have hin : i < n := by
          rcases Nat.lt_or_ge i n with q | q
          · exact q
          · exact absurd (nI_le q (by omega)) h1
        refine lv_aload_n hx hb dX0_lowestFree_10 rfl (lv_at hl 1 rfl) ?_
        refine lv_iload_n hx hb dX0_lowestFree_11 rfl (lv_at hl 0 rfl) ?_
        refine xr_V (n := 1) (As := [.int (nI i)]) (rest := []) ⟨hx, hb, hml, hown, ht⟩ (c_isFree l D A K n U TH AG Z B TK hn hU hT i hin) (xg_V kml_RX0_81 kim_yX0_isFree ksl_yX0_isFree kin_RX0 kco_yX0_isFree) ⟨rfl, rfl⟩ (by decide +kernel) ⟨Nat.le_of_ble_eq_true rfl, Nat.le_of_ble_eq_true rfl⟩ (xk_preV hP hK rfl rfl) rfl hl.1 rfl (Nat.le_of_ble_eq_true rfl) dX0_lowestFree_12 ⟨Nat.zero_le _, Nat.zero_le _⟩ (fun r1 e1 => ?_)
        subst e1
        refine lv_if_eq (tgt := 20) hx hb dX0_lowestFree_15 (by decide) (fun h2 => ?_) (fun h2 => ?_)
        · rw [xb_0] at h2
          refine lv_iinc (v := nI (i + 1)) (lv' := [(1, .int (nI (i + 1))), (0, .ref (A 0))]) hx hb dX0_lowestFree_20 hl (k := 0) rfl (nI_1 i) (by decide) rfl (fun ls hl => ?_)
          refine lv_goto (tgt := 2) hx hb dX0_lowestFree_23 (by decide) ?_
          exact ih (i + 1) (by omega) (by omega) (lt_s hc h2) ls (lv_sub hl [0, 1] rfl)
        · rw [xb_n0] at h2
          refine lv_iload_n hx hb dX0_lowestFree_18 rfl (lv_at hl 0 rfl) ?_
          exact W.iret (v := nI i) hx hb hr (fun t ht hW => ⟨nI i, rfl, Or.inl ⟨i, hin, h2, hc, rfl⟩, ht⟩) (fun _ h => by cases h) dX0_lowestFree_19
  refine lv_iconst (v := 0) hx hb dX0_lowestFree_0 (by decide) ?_
  refine lv_istore_n (lv' := [(1, .int 0), (0, .ref (A 0))]) hx hb dX0_lowestFree_1 rfl hl (by decide) rfl (fun ls hl => ?_)
  exact loop (n + 1) 0 (by omega) (by omega) (fun q hq => absurd hq (by omega)) ls (lv_sub hl [0, 1] rfl)

set_option maxHeartbeats 4000000 in
set_option maxRecDepth 100000 in
/-- blockAfter -/
theorem c_blockAfter (l : Launch) (D : va_G) (A : Nat → Nat) (K : Nat → ClassId) (n : Nat) (U TH AG : Nat → Nat) (Z : Nat → Bool) (B : Nat → Nat) (TK : Nat) (hn : n ≤ 128) (hU : ∀ j, U j < 65536) (hT : ∀ j, TH j < 65536) (j k : Nat) (hj : j < n) (hk : k < 16) : Met l yX0_blockAfter (xw yX0_blockAfter cX0_blockAfter 3 (some .int)) ({ frames := 3, cells := 0, slots := 0, locals := 63 }) (xk_P [.ref (A 0), .int (nI (96 + 16 * j + k))] D (xc_T K) (xc_W A K n U TH AG Z B TK)) (vp_Si (fun r => (k < 15 ∧ r = nI (96 + 16 * j + k + 1)) ∨ (k = 15 ∧ ((∃ q : Nat, q < n ∧ xfr U TH Z q = true ∧ (∀ i, i < q → xfr U TH Z i = false) ∧ r = nI (96 + 16 * q)) ∨ ((∀ i, i < n → xfr U TH Z i = false) ∧ r = -1))))) 0 0 (fun _ => False) := by
  refine Met.ofW (cc := cX0_blockAfter) (maxL := 3) (ret := (some .int)) (by decide) rfl ?_
  intro p e s m args below meth c s₁ B0 hml hv
  obtain ⟨rfl, hP, hK⟩ := hv
  have hx := B0.exec
  have hb := B0.bytes
  have hr := B0.returns
  have ht : ∀ w ∈ xT, w.before _ s = true := fun w h => atoms_spec (ws := xw yX0_blockAfter cX0_blockAfter 3 (some .int)) B0.pre w (List.mem_cons_of_mem _ h)
  have hown : s.vm.findClass RX0 = some m.cls := findClass_of_methodNamed B0.named
  have hlocks := B0.notSynchronized
  have hl := lv_entry ([.ref (A 0), .int (nI (96 + 16 * j + k))]) (n := 3) (Nat.le_of_ble_eq_true rfl)
  rw [lg_entry_eq]
  generalize (lg_sl ([.ref (A 0), .int (nI (96 + 16 * j + k))]) ++ List.replicate (3 - (lg_sl ([.ref (A 0), .int (nI (96 + 16 * j + k))])).length) Slot.unset).toArray = ls at hl ⊢
  have hl : lv_has ls 3 [(0, .ref (A 0)), (1, .int (nI (96 + 16 * j + k)))] := hl
  refine lv_iload_n hx hb dX0_blockAfter_0 rfl (lv_at hl 1 rfl) ?_
  refine xr_S (n := 1) (As := [.int (nI (96 + 16 * j + k))]) (rest := []) ⟨hx, hb, hml, hown, ht⟩ (c_placeOf l j k (by omega) hk) (xg_S kml_RX0_100 kst_yX0_placeOf kin_RX0 kco_yX0_placeOf) ⟨rfl, rfl⟩ (by decide +kernel) ⟨Nat.le_of_ble_eq_true rfl, Nat.le_of_ble_eq_true rfl⟩ xk_preE rfl hl.1 rfl (Nat.le_of_ble_eq_true rfl) dX0_blockAfter_1 ⟨Nat.zero_le _, Nat.zero_le _⟩ (fun r1 e1 => ?_)
  subst e1
  refine lv_bipush (v := 15) hx hb dX0_blockAfter_4 (by decide) ?_
  refine lv_icmp_ge (tgt := 13) hx hb dX0_blockAfter_6 (by decide) (fun h1 => ?_) (fun h1 => ?_)
  · have hk15 : k = 15 := by
      rcases Nat.lt_or_ge k 15 with q | q
      · exact absurd h1 (nI_ge (b := 15) q (by decide))
      · omega
    refine lv_aload_n hx hb dX0_blockAfter_13 rfl (lv_at hl 0 rfl) ?_
    refine xr_V (n := 0) (As := []) (rest := []) ⟨hx, hb, hml, hown, ht⟩ (c_lowestFree l D A K n U TH AG Z B TK hn hU hT) (xg_V kml_RX0_103 kim_yX0_lowestFree ksl_yX0_lowestFree kin_RX0 kco_yX0_lowestFree) ⟨rfl, rfl⟩ (by decide +kernel) ⟨Nat.le_of_ble_eq_true rfl, Nat.le_of_ble_eq_true rfl⟩ (xk_preV hP hK rfl rfl) rfl hl.1 rfl (Nat.le_of_ble_eq_true rfl) dX0_blockAfter_14 ⟨Nat.zero_le _, Nat.zero_le _⟩ (fun r2 e2 => ?_)
    rcases e2 with ⟨q, hq, f1, f2, rfl⟩ | ⟨f1, rfl⟩
    · refine lv_istore_n (lv' := [(2, .int (nI q)), (0, .ref (A 0)), (1, .int (nI (96 + 16 * j + k)))]) hx hb dX0_blockAfter_17 rfl hl (by decide) rfl (fun ls hl => ?_)
      refine lv_iload_n hx hb dX0_blockAfter_18 rfl (lv_at hl 0 rfl) ?_
      refine lv_iconst (v := -1) hx hb dX0_blockAfter_19 (by decide) ?_
      refine lv_icmp_ne (tgt := 27) hx hb dX0_blockAfter_20 (by decide) (fun h2 => ?_) (fun h2 => ?_)
      · refine lv_iload_n hx hb dX0_blockAfter_27 rfl (lv_at hl 0 rfl) ?_
        refine xr_S (n := 1) (As := [.int (nI q)]) (rest := []) ⟨hx, hb, hml, hown, ht⟩ (c_firstBlockOf l q) (xg_S kml_RX0_33 kst_yX0_firstBlockOf kin_RX0 kco_yX0_firstBlockOf) ⟨rfl, rfl⟩ (by decide +kernel) ⟨Nat.le_of_ble_eq_true rfl, Nat.le_of_ble_eq_true rfl⟩ xk_preE rfl hl.1 rfl (Nat.le_of_ble_eq_true rfl) dX0_blockAfter_28 ⟨Nat.zero_le _, Nat.zero_le _⟩ (fun r3 e3 => ?_)
        subst e3
        exact W.iret (v := nI (96 + 16 * q)) hx hb hr (fun t ht hW => ⟨nI (96 + 16 * q), rfl, Or.inr ⟨hk15, Or.inl ⟨q, hq, f1, f2, rfl⟩⟩, ht⟩) (fun _ h => by cases h) dX0_blockAfter_31
      · exact absurd h2 (xp_m1 (by omega))
    · refine lv_istore_n (lv' := [(2, .int (-1)), (0, .ref (A 0)), (1, .int (nI (96 + 16 * j + k)))]) hx hb dX0_blockAfter_17 rfl hl (by decide) rfl (fun ls hl => ?_)
      refine lv_iload_n hx hb dX0_blockAfter_18 rfl (lv_at hl 0 rfl) ?_
      refine lv_iconst (v := -1) hx hb dX0_blockAfter_19 (by decide) ?_
      refine lv_icmp_ne (tgt := 27) hx hb dX0_blockAfter_20 (by decide) (fun h2 => ?_) (fun h2 => ?_)
      · exact absurd rfl h2
      · refine lv_iconst (v := -1) hx hb dX0_blockAfter_23 (by decide) ?_
        refine lv_goto (tgt := 31) hx hb dX0_blockAfter_24 (by decide) ?_
        exact W.iret (v := (-1)) hx hb hr (fun t ht hW => ⟨(-1), rfl, Or.inr ⟨hk15, Or.inr ⟨f1, rfl⟩⟩, ht⟩) (fun _ h => by cases h) dX0_blockAfter_31
  · have hk15 : k < 15 := by
      rcases Nat.lt_or_ge k 15 with q | q
      · exact q
      · exact absurd (nI_le (a := 15) q (by omega)) h1
    refine lv_iload_n hx hb dX0_blockAfter_9 rfl (lv_at hl 1 rfl) ?_
    refine lv_iconst (v := 1) hx hb dX0_blockAfter_10 (by decide) ?_
    refine lv_iadd hx hb dX0_blockAfter_11 ?_
    refine xa_top (y := nI (96 + 16 * j + k + 1)) (nI_1 _) ?_
    exact W.iret (v := nI (96 + 16 * j + k + 1)) hx hb hr (fun t ht hW => ⟨nI (96 + 16 * j + k + 1), rfl, Or.inl ⟨hk15, rfl⟩, ht⟩) (fun _ h => by cases h) dX0_blockAfter_12

set_option maxHeartbeats 4000000 in
set_option maxRecDepth 100000 in
/-- gentleWorth -/
theorem c_gentleWorth (l : Launch) (D : va_G) (A : Nat → Nat) (K : Nat → ClassId) (n : Nat) (U TH AG : Nat → Nat) (Z : Nat → Bool) (B : Nat → Nat) (TK : Nat) (q a : Nat) (hq : q ≤ 16) (ha : a ≤ TK) (hTK : TK ≤ 100000) : Met l yX0_gentleWorth (xw yX0_gentleWorth cX0_gentleWorth 3 (some .int)) ({ frames := 0, cells := 0, slots := 0, locals := 0 }) (xk_P [.ref (A 0), .int (nI q), .int (nI a)] D (xc_T K) (xc_W A K n U TH AG Z B TK)) (vp_Si (fun r => r = nI ((16 - q) * (TK - a + 1) / (q + 16)))) 0 0 (fun _ => False) := by
  refine Met.ofW (cc := cX0_gentleWorth) (maxL := 3) (ret := (some .int)) (by decide) rfl ?_
  intro p e s m args below meth c s₁ B0 hml hv
  obtain ⟨rfl, hP, hK⟩ := hv
  have hx := B0.exec
  have hb := B0.bytes
  have hr := B0.returns
  have ht : ∀ w ∈ xT, w.before _ s = true := fun w h => atoms_spec (ws := xw yX0_gentleWorth cX0_gentleWorth 3 (some .int)) B0.pre w (List.mem_cons_of_mem _ h)
  have hown : s.vm.findClass RX0 = some m.cls := findClass_of_methodNamed B0.named
  have hlocks := B0.notSynchronized
  have hl := lv_entry ([.ref (A 0), .int (nI q), .int (nI a)]) (n := 3) (Nat.le_of_ble_eq_true rfl)
  rw [lg_entry_eq]
  generalize (lg_sl ([.ref (A 0), .int (nI q), .int (nI a)]) ++ List.replicate (3 - (lg_sl ([.ref (A 0), .int (nI q), .int (nI a)])).length) Slot.unset).toArray = ls at hl ⊢
  have hl : lv_has ls 3 [(0, .ref (A 0)), (1, .int (nI q)), (2, .int (nI a))] := hl
  refine lv_bipush (v := 16) hx hb dX0_gentleWorth_0 (by decide) ?_
  refine lv_iload_n hx hb dX0_gentleWorth_2 rfl (lv_at hl 1 rfl) ?_
  refine lv_isub hx hb dX0_gentleWorth_3 ?_
  refine lv_aload_n hx hb dX0_gentleWorth_4 rfl (lv_at hl 0 rfl) ?_
  refine va_get (D := D) (ci := 0) (v := .int (nI TK)) (C := RX0) (T := TX0) (N := 7) hx hb ht xin_X0 hown hK hP 0 rfl rfl 6 (by decide) (ht _ kfl_RX0_30) (fun _ h9 => h9) rfl dX0_gentleWorth_5 ?_
  refine lv_iload_n hx hb dX0_gentleWorth_8 rfl (lv_at hl 2 rfl) ?_
  refine lv_isub hx hb dX0_gentleWorth_9 ?_
  refine lv_iconst (v := 1) hx hb dX0_gentleWorth_10 (by decide) ?_
  refine lv_iadd hx hb dX0_gentleWorth_11 ?_
  refine lv_imul hx hb dX0_gentleWorth_12 ?_
  refine lv_iload_n hx hb dX0_gentleWorth_13 rfl (lv_at hl 1 rfl) ?_
  refine lv_bipush (v := 16) hx hb dX0_gentleWorth_14 (by decide) ?_
  refine lv_iadd hx hb dX0_gentleWorth_16 ?_
  refine lv_idiv hx hb dX0_gentleWorth_17 (fun z => nI_ne0 (n := q + 16) (by omega) (by omega) ((nI_add q 16).symm.trans z)) ?_
  refine xa_top (y := nI ((16 - q) * (TK - a + 1) / (q + 16))) (xworth hq ha hTK) ?_
  exact W.iret (v := nI ((16 - q) * (TK - a + 1) / (q + 16))) hx hb hr (fun t ht hW => ⟨nI ((16 - q) * (TK - a + 1) / (q + 16)), rfl, rfl, ht⟩) (fun _ h => by cases h) dX0_gentleWorth_18

set_option maxHeartbeats 4000000 in
set_option maxRecDepth 100000 in
/-- free -/
theorem c_free (l : Launch) (D : va_G) (A : Nat → Nat) (K : Nat → ClassId) (n : Nat) (U TH AG : Nat → Nat) (Z : Nat → Bool) (B : Nat → Nat) (TK : Nat) (hn : n ≤ 128) (hU : ∀ j, U j < 65536) (hT : ∀ j, TH j < 65536) : Met l yX0_free (xw yX0_free cX0_free 3 (some .int)) ({ frames := 2, cells := 0, slots := 0, locals := 42 }) (xk_P [.ref (A 0)] D (xc_T K) (xc_W A K n U TH AG Z B TK)) (vp_Si (fun r => r = nI (xcnt (fun j => (xfr U TH Z j).toNat) n))) 0 0 (fun _ => False) := by
  refine Met.ofW (cc := cX0_free) (maxL := 3) (ret := (some .int)) (by decide) rfl ?_
  intro p e s m args below meth c s₁ B0 hml hv
  obtain ⟨rfl, hP, hK⟩ := hv
  have hx := B0.exec
  have hb := B0.bytes
  have hr := B0.returns
  have ht : ∀ w ∈ xT, w.before _ s = true := fun w h => atoms_spec (ws := xw yX0_free cX0_free 3 (some .int)) B0.pre w (List.mem_cons_of_mem _ h)
  have hown : s.vm.findClass RX0 = some m.cls := findClass_of_methodNamed B0.named
  have hlocks := B0.notSynchronized
  have hl := lv_entry ([.ref (A 0)]) (n := 3) (Nat.le_of_ble_eq_true rfl)
  rw [lg_entry_eq]
  generalize (lg_sl ([.ref (A 0)]) ++ List.replicate (3 - (lg_sl ([.ref (A 0)])).length) Slot.unset).toArray = ls at hl ⊢
  have hl : lv_has ls 3 [(0, .ref (A 0))] := hl
  have loop : ∀ (f i : Nat), i ≤ n → n + 1 ≤ i + f → ∀ ls : Array Slot, lv_has ls 3 [(2, .int (nI i)), (1, .int (nI (xcnt (fun j => (xfr U TH Z j).toNat) i))), (0, .ref (A 0))] → W p l e (headSpec (xw yX0_free cX0_free 3 (some .int)) ({ frames := 2, cells := 0, slots := 0, locals := 42 })).room s m ([.ref (A 0)] : List Value).toArray below meth c s.heap [] 0 0 (MQ below (vp_Si (fun r => r = nI (xcnt (fun j => (xfr U TH Z j).toNat) n))) ([.ref (A 0)] : List Value).toArray s 0 0 (fun _ => False)) (F0 m 4 ls []) := by
    intro f
    induction f with
    | zero => intro i h1 h2; exact absurd h2 (by omega)
    | succ f ih =>
      intro i hi hf ls hl
      refine lv_iload_n hx hb dX0_free_4 rfl (lv_at hl 0 rfl) ?_
      refine lv_aload_n hx hb dX0_free_5 rfl (lv_at hl 2 rfl) ?_
      refine va_get (D := D) (ci := 0) (v := .int (nI n)) (C := RX0) (T := TX0) (N := 7) hx hb ht xin_X0 hown hK hP 0 rfl rfl 0 (by decide) (ht _ kfl_RX0_9) (fun _ h9 => h9) rfl dX0_free_6 ?_
      refine lv_icmp_ge (tgt := 29) hx hb dX0_free_9 (by decide) (fun h1 => ?_) (fun h1 => ?_)
      · have hin : i = n := by
          rcases Nat.lt_or_ge i n with q | q
          · exact absurd h1 (nI_ge q (by omega))
          · omega
        subst hin
        refine lv_iload_n hx hb dX0_free_29 rfl (lv_at hl 1 rfl) ?_
        exact W.iret (v := nI (xcnt (fun j => (xfr U TH Z j).toNat) i)) hx hb hr (fun t ht hW => ⟨nI (xcnt (fun j => (xfr U TH Z j).toNat) i), rfl, rfl, ht⟩) (fun _ h => by cases h) dX0_free_30
      · have hin : i < n := by
          rcases Nat.lt_or_ge i n with q | q
          · exact q
          · exact absurd (nI_le q (by omega)) h1
        refine lv_aload_n hx hb dX0_free_12 rfl (lv_at hl 2 rfl) ?_
        refine lv_iload_n hx hb dX0_free_13 rfl (lv_at hl 0 rfl) ?_
        refine xr_V (n := 1) (As := [.int (nI i)]) (rest := []) ⟨hx, hb, hml, hown, ht⟩ (c_isFree l D A K n U TH AG Z B TK hn hU hT i hin) (xg_V kml_RX0_81 kim_yX0_isFree ksl_yX0_isFree kin_RX0 kco_yX0_isFree) ⟨rfl, rfl⟩ (by decide +kernel) ⟨Nat.le_of_ble_eq_true rfl, Nat.le_of_ble_eq_true rfl⟩ (xk_preV hP hK rfl rfl) rfl hl.1 rfl (Nat.le_of_ble_eq_true rfl) dX0_free_14 ⟨Nat.zero_le _, Nat.zero_le _⟩ (fun r1 e1 => ?_)
        subst e1
        refine lv_if_eq (tgt := 23) hx hb dX0_free_17 (by decide) (fun h2 => ?_) (fun h2 => ?_)
        · rw [xb_0] at h2
          refine lv_iinc (v := nI (i + 1)) (lv' := [(2, .int (nI (i + 1))), (1, .int (nI (xcnt (fun j => (xfr U TH Z j).toNat) i))), (0, .ref (A 0))]) hx hb dX0_free_23 hl (k := 0) rfl (nI_1 i) (by decide) rfl (fun ls hl => ?_)
          refine lv_goto (tgt := 4) hx hb dX0_free_26 (by decide) ?_
          exact ih (i + 1) (by omega) (by omega) ls (by rw [xcnt, h2]; exact lv_sub hl [0, 1, 2] rfl)
        · rw [xb_n0] at h2
          refine lv_iinc (v := nI (xcnt (fun j => (xfr U TH Z j).toNat) i + 1)) (lv' := [(1, .int (nI (xcnt (fun j => (xfr U TH Z j).toNat) i + 1))), (2, .int (nI i)), (0, .ref (A 0))]) hx hb dX0_free_20 hl (k := 1) rfl (nI_1 _) (by decide) rfl (fun ls hl => ?_)
          refine lv_iinc (v := nI (i + 1)) (lv' := [(2, .int (nI (i + 1))), (1, .int (nI (xcnt (fun j => (xfr U TH Z j).toNat) i + 1))), (0, .ref (A 0))]) hx hb dX0_free_23 hl (k := 1) rfl (nI_1 i) (by decide) rfl (fun ls hl => ?_)
          refine lv_goto (tgt := 4) hx hb dX0_free_26 (by decide) ?_
          exact ih (i + 1) (by omega) (by omega) ls (by rw [xcnt, h2]; exact lv_sub hl [0, 1, 2] rfl)
  refine lv_iconst (v := 0) hx hb dX0_free_0 (by decide) ?_
  refine lv_istore_n (lv' := [(1, .int 0), (0, .ref (A 0))]) hx hb dX0_free_1 rfl hl (by decide) rfl (fun ls hl => ?_)
  refine lv_iconst (v := 0) hx hb dX0_free_2 (by decide) ?_
  refine lv_istore_n (lv' := [(2, .int 0), (1, .int 0), (0, .ref (A 0))]) hx hb dX0_free_3 rfl hl (by decide) rfl (fun ls hl => ?_)
  exact loop (n + 1) 0 (by omega) (by omega) ls (lv_sub hl [0, 1, 2] rfl)

set_option maxHeartbeats 4000000 in
set_option maxRecDepth 100000 in
/-- used -/
theorem c_used (l : Launch) (D : va_G) (A : Nat → Nat) (K : Nat → ClassId) (n : Nat) (U TH AG : Nat → Nat) (Z : Nat → Bool) (B : Nat → Nat) (TK : Nat) (hn : n ≤ 128) (hU : ∀ j, U j < 65536) (hT : ∀ j, TH j < 65536) : Met l yX0_used (xw yX0_used cX0_used 3 (some .int)) ({ frames := 1, cells := 0, slots := 0, locals := 20 }) (xk_P [.ref (A 0)] D (xc_T K) (xc_W A K n U TH AG Z B TK)) (vp_Si (fun r => r = nI (xcnt (fun j => xpc (U j)) n))) 0 0 (fun _ => False) := by
  refine Met.ofW (cc := cX0_used) (maxL := 3) (ret := (some .int)) (by decide) rfl ?_
  intro p e s m args below meth c s₁ B0 hml hv
  obtain ⟨rfl, hP, hK⟩ := hv
  have hx := B0.exec
  have hb := B0.bytes
  have hr := B0.returns
  have ht : ∀ w ∈ xT, w.before _ s = true := fun w h => atoms_spec (ws := xw yX0_used cX0_used 3 (some .int)) B0.pre w (List.mem_cons_of_mem _ h)
  have hown : s.vm.findClass RX0 = some m.cls := findClass_of_methodNamed B0.named
  have hlocks := B0.notSynchronized
  have hl := lv_entry ([.ref (A 0)]) (n := 3) (Nat.le_of_ble_eq_true rfl)
  rw [lg_entry_eq]
  generalize (lg_sl ([.ref (A 0)]) ++ List.replicate (3 - (lg_sl ([.ref (A 0)])).length) Slot.unset).toArray = ls at hl ⊢
  have hl : lv_has ls 3 [(0, .ref (A 0))] := hl
  have loop : ∀ (f i : Nat), i ≤ n → n + 1 ≤ i + f → ∀ ls : Array Slot, lv_has ls 3 [(2, .int (nI i)), (1, .int (nI (xcnt (fun j => xpc (U j)) i))), (0, .ref (A 0))] → W p l e (headSpec (xw yX0_used cX0_used 3 (some .int)) ({ frames := 1, cells := 0, slots := 0, locals := 20 })).room s m ([.ref (A 0)] : List Value).toArray below meth c s.heap [] 0 0 (MQ below (vp_Si (fun r => r = nI (xcnt (fun j => xpc (U j)) n))) ([.ref (A 0)] : List Value).toArray s 0 0 (fun _ => False)) (F0 m 4 ls []) := by
    intro f
    induction f with
    | zero => intro i h1 h2; exact absurd h2 (by omega)
    | succ f ih =>
      intro i hi hf ls hl
      refine lv_iload_n hx hb dX0_used_4 rfl (lv_at hl 0 rfl) ?_
      refine lv_aload_n hx hb dX0_used_5 rfl (lv_at hl 2 rfl) ?_
      refine va_get (D := D) (ci := 0) (v := .int (nI n)) (C := RX0) (T := TX0) (N := 7) hx hb ht xin_X0 hown hK hP 0 rfl rfl 0 (by decide) (ht _ kfl_RX0_9) (fun _ h9 => h9) rfl dX0_used_6 ?_
      refine lv_icmp_ge (tgt := 30) hx hb dX0_used_9 (by decide) (fun h1 => ?_) (fun h1 => ?_)
      · have hin : i = n := by
          rcases Nat.lt_or_ge i n with q | q
          · exact absurd h1 (nI_ge q (by omega))
          · omega
        subst hin
        refine lv_iload_n hx hb dX0_used_30 rfl (lv_at hl 1 rfl) ?_
        exact W.iret (v := nI (xcnt (fun j => xpc (U j)) i)) hx hb hr (fun t ht hW => ⟨nI (xcnt (fun j => xpc (U j)) i), rfl, rfl, ht⟩) (fun _ h => by cases h) dX0_used_31
      · have hin : i < n := by
          rcases Nat.lt_or_ge i n with q | q
          · exact q
          · exact absurd (nI_le q (by omega)) h1
        refine lv_iload_n hx hb dX0_used_12 rfl (lv_at hl 1 rfl) ?_
        refine lv_aload_n hx hb dX0_used_13 rfl (lv_at hl 2 rfl) ?_
        refine va_get (D := D) (ci := 0) (v := .ref (A 1)) (C := RX0) (T := TX0) (N := 7) hx hb ht xin_X0 hown hK hP 0 rfl rfl 1 (by decide) (ht _ kfl_RX0_13) (fun _ h9 => h9) rfl dX0_used_14 ?_
        refine lv_iload_n hx hb dX0_used_17 rfl (lv_at hl 0 rfl) ?_
        refine xa_ild hx hb hK hP 1 0 rfl rfl (v := nI (U i)) hin (by omega) rfl dX0_used_18 ?_
        refine xr_S (n := 1) (As := [.int (nI (U i))]) (rest := [.int (nI (xcnt (fun j => xpc (U j)) i))]) ⟨hx, hb, hml, hown, ht⟩ (c_bitCount l (U i) (hU i)) (xg_S kml_RX0_84 kst_yJ6_bitCount_0f7a4 kin_RJ6 kco_yJ6_bitCount_0f7a4) ⟨rfl, rfl⟩ (by decide +kernel) ⟨Nat.le_of_ble_eq_true rfl, Nat.le_of_ble_eq_true rfl⟩ xk_preE rfl hl.1 rfl (Nat.le_of_ble_eq_true rfl) dX0_used_19 ⟨Nat.zero_le _, Nat.zero_le _⟩ (fun r1 e1 => ?_)
        subst e1
        refine lv_iadd hx hb dX0_used_22 ?_
        refine xa_top (y := nI (xcnt (fun j => xpc (U j)) (i + 1))) (nI_add _ _) ?_
        refine lv_istore_n (lv' := [(1, .int (nI (xcnt (fun j => xpc (U j)) (i + 1)))), (2, .int (nI i)), (0, .ref (A 0))]) hx hb dX0_used_23 rfl hl (by decide) rfl (fun ls hl => ?_)
        refine lv_iinc (v := nI (i + 1)) (lv' := [(2, .int (nI (i + 1))), (1, .int (nI (xcnt (fun j => xpc (U j)) (i + 1)))), (0, .ref (A 0))]) hx hb dX0_used_24 hl (k := 1) rfl (nI_1 i) (by decide) rfl (fun ls hl => ?_)
        refine lv_goto (tgt := 4) hx hb dX0_used_27 (by decide) ?_
        exact ih (i + 1) (by omega) (by omega) ls (lv_sub hl [0, 1, 2] rfl)
  refine lv_iconst (v := 0) hx hb dX0_used_0 (by decide) ?_
  refine lv_istore_n (lv' := [(1, .int 0), (0, .ref (A 0))]) hx hb dX0_used_1 rfl hl (by decide) rfl (fun ls hl => ?_)
  refine lv_iconst (v := 0) hx hb dX0_used_2 (by decide) ?_
  refine lv_istore_n (lv' := [(2, .int 0), (1, .int 0), (0, .ref (A 0))]) hx hb dX0_used_3 rfl hl (by decide) rfl (fun ls hl => ?_)
  exact loop (n + 1) 0 (by omega) (by omega) ls (lv_sub hl [0, 1, 2] rfl)
