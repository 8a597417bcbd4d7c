theorem xp_bit : ∀ k, k < 16 → (1 : Int32) <<< (nI k &&& 31) = nI (2 ^ k) := by decide +kernel
set_option maxHeartbeats 4000000 in
set_option maxRecDepth 100000 in
/-- isLog -/
theorem c_isLog (l : Launch) (x : Int32) : Met l yX0_isLog (xw yX0_isLog cX0_isLog 1 (some .boolean)) ({ frames := 0, cells := 0, slots := 0, locals := 0 }) (xk_E [.int x]) (vp_Si (fun r => (∃ j : Nat, j < 6 ∧ x = nI j ∧ r = 1) ∨ ((¬ ∃ j : Nat, j < 6 ∧ x = nI j) ∧ r = 0))) 0 0 (fun _ => False) := by
  refine Met.ofW (cc := cX0_isLog) (maxL := 1) (ret := (some .boolean)) (by decide) rfl ?_
  intro p e s m args below meth c s₁ B0 hml hv
  obtain rfl := hv
  have hx := B0.exec
  have hb := B0.bytes
  have hr := B0.returns
  have ht : ∀ w ∈ xT, w.before _ s = true := fun w h => atoms_spec (ws := xw yX0_isLog cX0_isLog 1 (some .boolean)) B0.pre w (List.mem_cons_of_mem _ h)
  have hown : s.vm.findClass RX0 = some m.cls := findClass_of_methodNamed B0.named
  have hlocks := B0.notSynchronized
  have hl := lv_entry ([.int x]) (n := 1) (Nat.le_of_ble_eq_true rfl)
  rw [lg_entry_eq]
  generalize (lg_sl ([.int x]) ++ List.replicate (1 - (lg_sl ([.int x])).length) Slot.unset).toArray = ls at hl ⊢
  have hl : lv_has ls 1 [(0, .int x)] := hl
  refine lv_iload_n hx hb dX0_isLog_0 rfl (lv_at hl 0 rfl) ?_
  refine lv_if_lt (tgt := 14) hx hb dX0_isLog_1 (by decide) (fun h1 => ?_) (fun h1 => ?_)
  · refine lv_iconst (v := 0) hx hb dX0_isLog_14 (by decide) ?_
    exact W.zret (v := 0) (ty := .boolean) hx hb hr (by decide) (fun t ht hW => ⟨0, rfl, Or.inr ⟨fun ⟨j, hj, he⟩ => nI_pos (n := j) (by omega) (by rw [← he]; exact h1), rfl⟩, ht⟩) (fun _ h => by cases h) dX0_isLog_15
  · refine lv_iload_n hx hb dX0_isLog_4 rfl (lv_at hl 0 rfl) ?_
    refine lv_bipush (v := 6) hx hb dX0_isLog_5 (by decide) ?_
    refine lv_icmp_ge (tgt := 14) hx hb dX0_isLog_7 (by decide) (fun h2 => ?_) (fun h2 => ?_)
    · refine lv_iconst (v := 0) hx hb dX0_isLog_14 (by decide) ?_
      exact W.zret (v := 0) (ty := .boolean) hx hb hr (by decide) (fun t ht hW => ⟨0, rfl, Or.inr ⟨fun ⟨j, hj, he⟩ => nI_ge hj (by decide) (by rw [← he]; exact h2), rfl⟩, ht⟩) (fun _ h => by cases h) dX0_isLog_15
    · rcases pk_ix x (n := 6) (by decide) with q | q | ⟨j, hj, rfl⟩
      · exact absurd q h1
      · exact absurd q h2
      refine lv_iconst (v := 1) hx hb dX0_isLog_10 (by decide) ?_
      refine lv_goto (tgt := 15) hx hb dX0_isLog_11 (by decide) ?_
      exact W.zret (v := 1) (ty := .boolean) hx hb hr (by decide) (fun t ht hW => ⟨1, rfl, Or.inl ⟨j, hj, rfl, rfl⟩, ht⟩) (fun _ h => by cases h) dX0_isLog_15

set_option maxHeartbeats 4000000 in
set_option maxRecDepth 100000 in
/-- isSegment -/
theorem c_isSegment (l : Launch) (D : va_G) (A : Nat → Nat) (K : Nat → ClassId) (n : Nat) (U TH AG : Nat → Nat) (Z : Nat → Bool) (B : Nat → Nat) (TK : Nat) (x : Int32) (hn : n ≤ 128) : Met l yX0_isSegment (xw yX0_isSegment cX0_isSegment 2 (some .boolean)) ({ frames := 0, cells := 0, slots := 0, locals := 0 }) (xk_P [.ref (A 0), .int x] D (xc_T K) (xc_W A K n U TH AG Z B TK)) (vp_Si (fun r => (∃ j : Nat, j < n ∧ x = nI j ∧ r = 1) ∨ ((¬ ∃ j : Nat, j < n ∧ x = nI j) ∧ r = 0))) 0 0 (fun _ => False) := by
  refine Met.ofW (cc := cX0_isSegment) (maxL := 2) (ret := (some .boolean)) (by decide) rfl ?_
  intro p e s m args below meth c s₁ B0 hml hv
  obtain ⟨rfl, hP, hK⟩ := hv
  have hx := B0.exec
  have hb := B0.bytes
  have hr := B0.returns
  have ht : ∀ w ∈ xT, w.before _ s = true := fun w h => atoms_spec (ws := xw yX0_isSegment cX0_isSegment 2 (some .boolean)) B0.pre w (List.mem_cons_of_mem _ h)
  have hown : s.vm.findClass RX0 = some m.cls := findClass_of_methodNamed B0.named
  have hlocks := B0.notSynchronized
  have hl := lv_entry ([.ref (A 0), .int x]) (n := 2) (Nat.le_of_ble_eq_true rfl)
  rw [lg_entry_eq]
  generalize (lg_sl ([.ref (A 0), .int x]) ++ List.replicate (2 - (lg_sl ([.ref (A 0), .int x])).length) Slot.unset).toArray = ls at hl ⊢
  have hl : lv_has ls 2 [(0, .ref (A 0)), (1, .int x)] := hl
  refine lv_iload_n hx hb dX0_isSegment_0 rfl (lv_at hl 1 rfl) ?_
  refine lv_if_lt (tgt := 16) hx hb dX0_isSegment_1 (by decide) (fun h1 => ?_) (fun h1 => ?_)
  · refine lv_iconst (v := 0) hx hb dX0_isSegment_16 (by decide) ?_
    exact W.zret (v := 0) (ty := .boolean) hx hb hr (by decide) (fun t ht hW => ⟨0, rfl, Or.inr ⟨fun ⟨j, hj, he⟩ => nI_pos (n := j) (by omega) (by rw [← he]; exact h1), rfl⟩, ht⟩) (fun _ h => by cases h) dX0_isSegment_17
  · refine lv_iload_n hx hb dX0_isSegment_4 rfl (lv_at hl 1 rfl) ?_
    refine lv_aload_n hx hb dX0_isSegment_5 rfl (lv_at hl 0 rfl) ?_
    refine va_get (D := D) (ci := 0) (v := .int (nI n)) (C := RX0) (T := TX0) (N := 7) hx hb ht xin_X0 hown hK hP 0 rfl rfl 0 (by decide) (ht _ kfl_RX0_9) (fun _ h9 => h9) rfl dX0_isSegment_6 ?_
    refine lv_icmp_ge (tgt := 16) hx hb dX0_isSegment_9 (by decide) (fun h2 => ?_) (fun h2 => ?_)
    · refine lv_iconst (v := 0) hx hb dX0_isSegment_16 (by decide) ?_
      exact W.zret (v := 0) (ty := .boolean) hx hb hr (by decide) (fun t ht hW => ⟨0, rfl, Or.inr ⟨fun ⟨j, hj, he⟩ => nI_ge hj (by omega) (by rw [← he]; exact h2), rfl⟩, ht⟩) (fun _ h => by cases h) dX0_isSegment_17
    · rcases pk_ix x (n := n) (by omega) with q | q | ⟨j, hj, rfl⟩
      · exact absurd q h1
      · exact absurd q h2
      refine lv_iconst (v := 1) hx hb dX0_isSegment_12 (by decide) ?_
      refine lv_goto (tgt := 17) hx hb dX0_isSegment_13 (by decide) ?_
      exact W.zret (v := 1) (ty := .boolean) hx hb hr (by decide) (fun t ht hW => ⟨1, rfl, Or.inl ⟨j, hj, rfl, rfl⟩, ht⟩) (fun _ h => by cases h) dX0_isSegment_17

set_option maxHeartbeats 4000000 in
set_option maxRecDepth 100000 in
/-- firstBlockOf -/
theorem c_firstBlockOf (l : Launch) (j : Nat) : Met l yX0_firstBlockOf (xw yX0_firstBlockOf cX0_firstBlockOf 1 (some .int)) ({ frames := 0, cells := 0, slots := 0, locals := 0 }) (xk_E [.int (nI j)]) (vp_Si (fun r => r = nI (96 + 16 * j))) 0 0 (fun _ => False) := by
  refine Met.ofW (cc := cX0_firstBlockOf) (maxL := 1) (ret := (some .int)) (by decide) rfl ?_
  intro p e s m args below meth c s₁ B0 hml hv
  obtain rfl := hv
  have hx := B0.exec
  have hb := B0.bytes
  have hr := B0.returns
  have ht : ∀ w ∈ xT, w.before _ s = true := fun w h => atoms_spec (ws := xw yX0_firstBlockOf cX0_firstBlockOf 1 (some .int)) B0.pre w (List.mem_cons_of_mem _ h)
  have hown : s.vm.findClass RX0 = some m.cls := findClass_of_methodNamed B0.named
  have hlocks := B0.notSynchronized
  have hl := lv_entry ([.int (nI j)]) (n := 1) (Nat.le_of_ble_eq_true rfl)
  rw [lg_entry_eq]
  generalize (lg_sl ([.int (nI j)]) ++ List.replicate (1 - (lg_sl ([.int (nI j)])).length) Slot.unset).toArray = ls at hl ⊢
  have hl : lv_has ls 1 [(0, .int (nI j))] := hl
  refine lv_bipush (v := 96) hx hb dX0_firstBlockOf_0 (by decide) ?_
  refine lv_bipush (v := 16) hx hb dX0_firstBlockOf_2 (by decide) ?_
  refine lv_iload_n hx hb dX0_firstBlockOf_4 rfl (lv_at hl 0 rfl) ?_
  refine lv_imul hx hb dX0_firstBlockOf_5 ?_
  refine lv_iadd hx hb dX0_firstBlockOf_6 ?_
  refine xa_top (y := nI (96 + 16 * j)) (by rw [show (16 : Int32) = nI 16 from rfl, xp_96, pk_mul, nI_add]) ?_
  exact W.iret (v := nI (96 + 16 * j)) hx hb hr (fun t ht hW => ⟨_, rfl, rfl, ht⟩) (fun _ h => by cases h) dX0_firstBlockOf_7

set_option maxHeartbeats 4000000 in
set_option maxRecDepth 100000 in
/-- placeOf -/
theorem c_placeOf (l : Launch) (j k : Nat) (hj : j < 128) (hk : k < 16) : Met l yX0_placeOf (xw yX0_placeOf cX0_placeOf 1 (some .int)) ({ frames := 0, cells := 0, slots := 0, locals := 0 }) (xk_E [.int (nI (96 + 16 * j + k))]) (vp_Si (fun r => r = nI k)) 0 0 (fun _ => False) := by
  refine Met.ofW (cc := cX0_placeOf) (maxL := 1) (ret := (some .int)) (by decide) rfl ?_
  intro p e s m args below meth c s₁ B0 hml hv
  obtain rfl := hv
  have hx := B0.exec
  have hb := B0.bytes
  have hr := B0.returns
  have ht : ∀ w ∈ xT, w.before _ s = true := fun w h => atoms_spec (ws := xw yX0_placeOf cX0_placeOf 1 (some .int)) B0.pre w (List.mem_cons_of_mem _ h)
  have hown : s.vm.findClass RX0 = some m.cls := findClass_of_methodNamed B0.named
  have hlocks := B0.notSynchronized
  have hl := lv_entry ([.int (nI (96 + 16 * j + k))]) (n := 1) (Nat.le_of_ble_eq_true rfl)
  rw [lg_entry_eq]
  generalize (lg_sl ([.int (nI (96 + 16 * j + k))]) ++ List.replicate (1 - (lg_sl ([.int (nI (96 + 16 * j + k))])).length) Slot.unset).toArray = ls at hl ⊢
  have hl : lv_has ls 1 [(0, .int (nI (96 + 16 * j + k)))] := hl
  refine lv_iload_n hx hb dX0_placeOf_0 rfl (lv_at hl 0 rfl) ?_
  refine lv_bipush (v := 96) hx hb dX0_placeOf_1 (by decide) ?_
  refine lv_isub hx hb dX0_placeOf_3 ?_
  refine lv_bipush (v := 16) hx hb dX0_placeOf_4 (by decide) ?_
  refine lv_irem hx hb dX0_placeOf_6 (by decide) ?_
  refine xa_top (y := nI k) (by rw [xp_96, show (16 : Int32) = nI 16 from rfl, pk_sub (by omega), pk_rem (by omega) (by decide) (by decide)]; congr 1; omega) ?_
  exact W.iret (v := nI k) hx hb hr (fun t ht hW => ⟨nI k, rfl, rfl, ht⟩) (fun _ h => by cases h) dX0_placeOf_7

set_option maxHeartbeats 4000000 in
set_option maxRecDepth 100000 in
/-- bitOf -/
theorem c_bitOf (l : Launch) (j k : Nat) (hj : j < 128) (hk : k < 16) : Met l yX0_bitOf (xw yX0_bitOf cX0_bitOf 1 (some .int)) ({ frames := 1, cells := 0, slots := 0, locals := 20 }) (xk_E [.int (nI (96 + 16 * j + k))]) (vp_Si (fun r => r = nI (2 ^ k))) 0 0 (fun _ => False) := by
  refine Met.ofW (cc := cX0_bitOf) (maxL := 1) (ret := (some .int)) (by decide) rfl ?_
  intro p e s m args below meth c s₁ B0 hml hv
  obtain rfl := hv
  have hx := B0.exec
  have hb := B0.bytes
  have hr := B0.returns
  have ht : ∀ w ∈ xT, w.before _ s = true := fun w h => atoms_spec (ws := xw yX0_bitOf cX0_bitOf 1 (some .int)) B0.pre w (List.mem_cons_of_mem _ h)
  have hown : s.vm.findClass RX0 = some m.cls := findClass_of_methodNamed B0.named
  have hlocks := B0.notSynchronized
  have hl := lv_entry ([.int (nI (96 + 16 * j + k))]) (n := 1) (Nat.le_of_ble_eq_true rfl)
  rw [lg_entry_eq]
  generalize (lg_sl ([.int (nI (96 + 16 * j + k))]) ++ List.replicate (1 - (lg_sl ([.int (nI (96 + 16 * j + k))])).length) Slot.unset).toArray = ls at hl ⊢
  have hl : lv_has ls 1 [(0, .int (nI (96 + 16 * j + k)))] := hl
  refine lv_iconst (v := 1) hx hb dX0_bitOf_0 (by decide) ?_
  refine lv_iload_n hx hb dX0_bitOf_1 rfl (lv_at hl 0 rfl) ?_
  refine xr_S (n := 1) (As := [.int (nI (96 + 16 * j + k))]) (rest := [.int 1]) ⟨hx, hb, hml, hown, ht⟩ (c_placeOf l j k hj hk) (xg_S kml_RX0_100 kst_yX0_placeOf kin_RX0 kco_yX0_placeOf) ⟨rfl, rfl⟩ (by decide +kernel) ⟨Nat.le_of_ble_eq_true rfl, Nat.le_of_ble_eq_true rfl⟩ xk_preE rfl hl.1 rfl (Nat.le_of_ble_eq_true rfl) dX0_bitOf_2 ⟨Nat.zero_le _, Nat.zero_le _⟩ (fun r1 e1 => ?_)
  subst e1
  refine lv_ishl hx hb dX0_bitOf_5 ?_
  refine xa_top (y := nI (2 ^ k)) (xp_bit k hk) ?_
  exact W.iret (v := nI (2 ^ k)) hx hb hr (fun t ht hW => ⟨nI (2 ^ k), rfl, rfl, ht⟩) (fun _ h => by cases h) dX0_bitOf_6

set_option maxHeartbeats 4000000 in
set_option maxRecDepth 100000 in
/-- segmentOf -/
theorem c_segmentOf (l : Launch) (D : va_G) (A : Nat → Nat) (K : Nat → ClassId) (n : Nat) (U TH AG : Nat → Nat) (Z : Nat → Bool) (B : Nat → Nat) (TK : Nat) (x : Int32) (hn : n ≤ 128) : Met l yX0_segmentOf (xw yX0_segmentOf cX0_segmentOf 2 (some .int)) ({ frames := 1, cells := 0, slots := 0, locals := 20 }) (xk_P [.ref (A 0), .int x] D (xc_T K) (xc_W A K n U TH AG Z B TK)) (vp_Si (fun r => (∃ j k : Nat, j < n ∧ k < 16 ∧ x = nI (96 + 16 * j + k) ∧ r = nI j) ∨ ((¬ ∃ j k : Nat, j < n ∧ k < 16 ∧ x = nI (96 + 16 * j + k)) ∧ r = -1))) 0 0 (fun _ => False) := by
  refine Met.ofW (cc := cX0_segmentOf) (maxL := 2) (ret := (some .int)) (by decide) rfl ?_
  intro p e s m args below meth c s₁ B0 hml hv
  obtain ⟨rfl, hP, hK⟩ := hv
  have hx := B0.exec
  have hb := B0.bytes
  have hr := B0.returns
  have ht : ∀ w ∈ xT, w.before _ s = true := fun w h => atoms_spec (ws := xw yX0_segmentOf cX0_segmentOf 2 (some .int)) B0.pre w (List.mem_cons_of_mem _ h)
  have hown : s.vm.findClass RX0 = some m.cls := findClass_of_methodNamed B0.named
  have hlocks := B0.notSynchronized
  have hl := lv_entry ([.ref (A 0), .int x]) (n := 2) (Nat.le_of_ble_eq_true rfl)
  rw [lg_entry_eq]
  generalize (lg_sl ([.ref (A 0), .int x]) ++ List.replicate (2 - (lg_sl ([.ref (A 0), .int x])).length) Slot.unset).toArray = ls at hl ⊢
  have hl : lv_has ls 2 [(0, .ref (A 0)), (1, .int x)] := hl
  have hq := xp_blk x hn
  refine lv_iload_n hx hb dX0_segmentOf_0 rfl (lv_at hl 1 rfl) ?_
  refine lv_bipush (v := 96) hx hb dX0_segmentOf_1 (by decide) ?_
  refine lv_icmp_lt (tgt := 17) hx hb dX0_segmentOf_3 (by decide) (fun h1 => ?_) (fun h1 => ?_)
  · have hno : ¬ ∃ j k : Nat, j < n ∧ k < 16 ∧ x = nI (96 + 16 * j + k) := by
      rintro ⟨j, k, hj, hk, rfl⟩
      exact nI_nlt (b := 96) (by omega) (by omega) h1
    refine lv_iconst (v := -1) hx hb dX0_segmentOf_17 (by decide) ?_
    exact W.iret (v := (-1)) hx hb hr (fun t ht hW => ⟨(-1), rfl, Or.inr ⟨hno, rfl⟩, ht⟩) (fun _ h => by cases h) dX0_segmentOf_18
  · refine lv_iload_n hx hb dX0_segmentOf_6 rfl (lv_at hl 1 rfl) ?_
    refine lv_aload_n hx hb dX0_segmentOf_7 rfl (lv_at hl 0 rfl) ?_
    refine va_get (D := D) (ci := 0) (v := .int (nI n)) (C := RX0) (T := TX0) (N := 7) hx hb ht xin_X0 hown hK hP 0 rfl rfl 0 (by decide) (ht _ kfl_RX0_9) (fun _ h9 => h9) rfl dX0_segmentOf_8 ?_
    refine xr_S (n := 1) (As := [.int (nI n)]) (rest := [.int x]) ⟨hx, hb, hml, hown, ht⟩ (c_firstBlockOf l n) (xg_S kml_RX0_33 kst_yX0_firstBlockOf kin_RX0 kco_yX0_firstBlockOf) ⟨rfl, rfl⟩ (by decide +kernel) ⟨Nat.le_of_ble_eq_true rfl, Nat.le_of_ble_eq_true rfl⟩ xk_preE rfl hl.1 rfl (Nat.le_of_ble_eq_true rfl) dX0_segmentOf_11 ⟨Nat.zero_le _, Nat.zero_le _⟩ (fun r1 e1 => ?_)
    subst e1
    refine lv_icmp_lt (tgt := 19) hx hb dX0_segmentOf_14 (by decide) (fun h2 => ?_) (fun h2 => ?_)
    · rcases hq with ⟨j, k, hj, hk, rfl⟩ | ⟨q, -⟩
      · refine lv_iload_n hx hb dX0_segmentOf_19 rfl (lv_at hl 1 rfl) ?_
        refine lv_bipush (v := 96) hx hb dX0_segmentOf_20 (by decide) ?_
        refine lv_isub hx hb dX0_segmentOf_22 ?_
        refine lv_bipush (v := 16) hx hb dX0_segmentOf_23 (by decide) ?_
        refine lv_idiv hx hb dX0_segmentOf_25 (by decide) ?_
        refine xa_top (y := nI j) (by rw [xp_96, show (16 : Int32) = nI 16 from rfl, pk_sub (by omega), pk_div (by omega) (by decide) (by decide)]; congr 1; omega) ?_
        exact W.iret (v := nI j) hx hb hr (fun t ht hW => ⟨nI j, rfl, Or.inl ⟨j, k, hj, hk, rfl, rfl⟩, ht⟩) (fun _ h => by cases h) dX0_segmentOf_26
      · rcases q with q | q
        · exact absurd q h1
        · exact absurd h2 (Int32.not_lt.mpr q)
    · have hno : ¬ ∃ j k : Nat, j < n ∧ k < 16 ∧ x = nI (96 + 16 * j + k) := by
        rintro ⟨j, k, hj, hk, rfl⟩
        exact h2 (nI_lt (by omega) (by omega))
      refine lv_iconst (v := -1) hx hb dX0_segmentOf_17 (by decide) ?_
      exact W.iret (v := (-1)) hx hb hr (fun t ht hW => ⟨(-1), rfl, Or.inr ⟨hno, rfl⟩, ht⟩) (fun _ h => by cases h) dX0_segmentOf_18
