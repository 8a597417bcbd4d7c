/-- the reference: taken, by the first i logs; free, by the first i blocks; bits from above -/
def xtk (TO : Nat → Bool) (OP : Nat → Nat) (j : Nat) : Nat → Bool
  | 0 => TO j
  | i + 1 => xtk TO OP j i || OP i == j
def xmf (V TV : Nat → Bool) (t : Bool) (j : Nat) : Nat → Bool
  | 0 => !t
  | i + 1 => xmf V TV t j i && (!V (16 * j + i) && !TV (16 * j + i))
def xmfr (V TV TO : Nat → Bool) (OP : Nat → Nat) (j : Nat) : Bool := xmf V TV (xtk TO OP j 6) j 16
def xmu (V : Nat → Bool) (j : Nat) : Nat := xcnt (fun k => (V (16 * j + k)).toNat) 16
def xhc (f : Nat → Bool) : Nat → Nat
  | 0 => 0
  | i + 1 => 2 * xhc f i + (f (15 - i)).toNat
theorem xix (j i : Nat) : (16 : Int32) * nI j + nI i = nI (16 * j + i) := by rw [show (16 : Int32) = nI 16 from rfl, pk_mul, nI_add]
theorem xbor (a b : Bool) : xb (a || b) = if a then 1 else xb b := by cases a <;> cases b <;> rfl
theorem xb1 {b : Bool} (h : b = true) : (1 : Int32) = xb b := by rw [h]; rfl
theorem xb00 {b : Bool} (h : b = false) : (0 : Int32) = xb b := by rw [h]; rfl
set_option maxHeartbeats 4000000 in
set_option maxRecDepth 100000 in
/-- thrown -/
theorem m_thrown (l : Launch) (D : va_G) (A : Nat → Nat) (K : Nat → ClassId) (th n : Nat) (V TV TO : Nat → Bool) (AG OP NX : Nat → Nat) (TK : Nat) : Met l yX1_thrown (xw yX1_thrown cX1_thrown 1 (some .int)) ({ frames := 0, cells := 0, slots := 0, locals := 0 }) (xk_P [.ref (A 0)] D (xm_T K) (xm_W A K th n V TV TO AG OP NX TK)) (vp_Si (fun r => r = nI th)) 0 0 (fun _ => False) := by
  refine Met.ofW (cc := cX1_thrown) (maxL := 1) (ret := (some .int)) (by decide) rfl ?_
  intro p e s m args below meth c s₁ B0 hml hv
  obtain ⟨rfl, hP, hK⟩ := hv
  have hx := B0.exec
  have hb := B0.bytes
  have hr := B0.returns
  have ht : ∀ w ∈ xT, w.before _ s = true := fun w h => atoms_spec (ws := xw yX1_thrown cX1_thrown 1 (some .int)) B0.pre w (List.mem_cons_of_mem _ h)
  have hown : s.vm.findClass RX1 = some m.cls := findClass_of_methodNamed B0.named
  have hlocks := B0.notSynchronized
  have hl := lv_entry ([.ref (A 0)]) (n := 1) (Nat.le_of_ble_eq_true rfl)
  rw [lg_entry_eq]
  generalize (lg_sl ([.ref (A 0)]) ++ List.replicate (1 - (lg_sl ([.ref (A 0)])).length) Slot.unset).toArray = ls at hl ⊢
  have hl : lv_has ls 1 [(0, .ref (A 0))] := hl
  refine lv_aload_n hx hb dX1_thrown_0 rfl (lv_at hl 0 rfl) ?_
  refine va_get (D := D) (ci := 1) (v := .int (nI th)) (C := RX1) (T := TX1) (N := 9) hx hb ht xin_X1 hown hK hP 0 rfl rfl 0 (by decide) (ht _ kfl_RX1_33) (fun _ h9 => h9) rfl dX1_thrown_1 ?_
  exact W.iret (v := nI th) hx hb hr (fun t ht hW => ⟨nI th, rfl, rfl, ht⟩) (fun _ h => by cases h) dX1_thrown_4

set_option maxHeartbeats 4000000 in
set_option maxRecDepth 100000 in
/-- isTaken -/
theorem m_isTaken (l : Launch) (D : va_G) (A : Nat → Nat) (K : Nat → ClassId) (th n : Nat) (V TV TO : Nat → Bool) (AG OP NX : Nat → Nat) (TK : Nat) (hOP : ∀ q, q < 6 → OP q < 128) (j : Nat) (hj : j < 128) : Met l yX1_isTaken (xw yX1_isTaken cX1_isTaken 4 (some .boolean)) ({ frames := 0, cells := 0, slots := 0, locals := 0 }) (xk_P [.ref (A 0), .int (nI j)] D (xm_T K) (xm_W A K th n V TV TO AG OP NX TK)) (vp_Si (fun r => r = xb (xtk TO OP j 6))) 0 0 (fun _ => False) := by
  refine Met.ofW (cc := cX1_isTaken) (maxL := 4) (ret := (some .boolean)) (by decide) rfl ?_
  intro p e s m args below meth c s₁ B0 hml hv
  obtain ⟨rfl, hP, hK⟩ := hv
  have hx := B0.exec
  have hb := B0.bytes
  have hr := B0.returns
  have ht : ∀ w ∈ xT, w.before _ s = true := fun w h => atoms_spec (ws := xw yX1_isTaken cX1_isTaken 4 (some .boolean)) B0.pre w (List.mem_cons_of_mem _ h)
  have hown : s.vm.findClass RX1 = some m.cls := findClass_of_methodNamed B0.named
  have hlocks := B0.notSynchronized
  have hl := lv_entry ([.ref (A 0), .int (nI j)]) (n := 4) (Nat.le_of_ble_eq_true rfl)
  rw [lg_entry_eq]
  generalize (lg_sl ([.ref (A 0), .int (nI j)]) ++ List.replicate (4 - (lg_sl ([.ref (A 0), .int (nI j)])).length) Slot.unset).toArray = ls at hl ⊢
  have hl : lv_has ls 4 [(0, .ref (A 0)), (1, .int (nI j))] := hl
  have loop : ∀ (f i : Nat), i ≤ 6 → 6 + 1 ≤ i + f → ∀ ls : Array Slot, lv_has ls 4 [(3, .int (nI i)), (2, .int (xb (xtk TO OP j i))), (0, .ref (A 0)), (1, .int (nI j))] → W p l e (headSpec (xw yX1_isTaken cX1_isTaken 4 (some .boolean)) ({ frames := 0, cells := 0, slots := 0, locals := 0 })).room s m ([.ref (A 0), .int (nI j)] : List Value).toArray below meth c s.heap [] 0 0 (MQ below (vp_Si (fun r => r = xb (xtk TO OP j 6))) ([.ref (A 0), .int (nI j)] : List Value).toArray s 0 0 (fun _ => False)) (F0 m 9 ls []) := by
    intro f
    induction f with
    | zero => intro i h1 h2; exact absurd h2 (by omega)
    | succ f ih =>
      intro i hi hf ls hl
      refine lv_iload_n hx hb dX1_isTaken_9 rfl (lv_at hl 0 rfl) ?_
      refine lv_bipush (v := 6) hx hb dX1_isTaken_10 (by decide) ?_
      refine lv_icmp_ge (tgt := 41) hx hb dX1_isTaken_12 (by decide) (fun h1 => ?_) (fun h1 => ?_)
      · have hin : i = 6 := by
          rcases Nat.lt_or_ge i 6 with q | q
          · exact absurd h1 (nI_ge (b := 6) q (by omega))
          · omega
        subst hin
        refine lv_iload_n hx hb dX1_isTaken_41 rfl (lv_at hl 1 rfl) ?_
        exact W.zret (v := xb (xtk TO OP j 6)) (ty := .boolean) hx hb hr (xn_b' _) (fun t ht hW => ⟨xb (xtk TO OP j 6), rfl, rfl, ht⟩) (fun _ h => by cases h) dX1_isTaken_42
      · have hin : i < 6 := by
          rcases Nat.lt_or_ge i 6 with q | q
          · exact q
          · exact absurd (nI_le (a := 6) q (by omega)) h1
        refine lv_iload_n hx hb dX1_isTaken_15 rfl (lv_at hl 1 rfl) ?_
        refine lv_if_ne (tgt := 29) hx hb dX1_isTaken_16 (by decide) (fun h2 => ?_) (fun h2 => ?_)
        · rw [xb_n0] at h2
          refine lv_iconst (v := 1) hx hb dX1_isTaken_29 (by decide) ?_
          refine lv_goto (tgt := 34) hx hb dX1_isTaken_30 (by decide) ?_
          refine xa_top (y := xb (xtk TO OP j (i + 1))) (xb1 (by simp [xtk, h2])) ?_
          refine lv_istore_n (lv' := [(2, .int (xb (xtk TO OP j (i + 1)))), (3, .int (nI i)), (0, .ref (A 0)), (1, .int (nI j))]) hx hb dX1_isTaken_34 rfl hl (by decide) rfl (fun ls hl => ?_)
          refine lv_iinc (v := nI (i + 1)) (lv' := [(3, .int (nI (i + 1))), (2, .int (xb (xtk TO OP j (i + 1)))), (0, .ref (A 0)), (1, .int (nI j))]) hx hb dX1_isTaken_35 hl (k := 1) rfl (nI_1 i) (by decide) rfl (fun ls hl => ?_)
          refine lv_goto (tgt := 9) hx hb dX1_isTaken_38 (by decide) ?_
          exact ih (i + 1) (by omega) (by omega) ls (lv_sub hl [0, 1, 2, 3] rfl)
        · rw [xb_0] at h2
          refine lv_aload_n hx hb dX1_isTaken_19 rfl (lv_at hl 2 rfl) ?_
          refine va_get (D := D) (ci := 1) (v := .ref (A 5)) (C := RX1) (T := TX1) (N := 9) hx hb ht xin_X1 hown hK hP 0 rfl rfl 6 (by decide) (ht _ kfl_RX1_23) (fun _ h9 => h9) rfl dX1_isTaken_20 ?_
          refine lv_iload_n hx hb dX1_isTaken_23 rfl (lv_at hl 0 rfl) ?_
          refine xa_ild hx hb hK hP 5 4 rfl rfl (v := nI (OP i)) hin (by decide) rfl dX1_isTaken_24 ?_
          refine lv_iload_n hx hb dX1_isTaken_25 rfl (lv_at hl 3 rfl) ?_
          refine lv_icmp_ne (tgt := 33) hx hb dX1_isTaken_26 (by decide) (fun h3 => ?_) (fun h3 => ?_)
          · have hne : OP i ≠ j := fun z => h3 (by rw [z])
            refine lv_iconst (v := 0) hx hb dX1_isTaken_33 (by decide) ?_
            refine xa_top (y := xb (xtk TO OP j (i + 1))) (xb00 (by simp [xtk, h2, hne])) ?_
            refine lv_istore_n (lv' := [(2, .int (xb (xtk TO OP j (i + 1)))), (3, .int (nI i)), (0, .ref (A 0)), (1, .int (nI j))]) hx hb dX1_isTaken_34 rfl hl (by decide) rfl (fun ls hl => ?_)
            refine lv_iinc (v := nI (i + 1)) (lv' := [(3, .int (nI (i + 1))), (2, .int (xb (xtk TO OP j (i + 1)))), (0, .ref (A 0)), (1, .int (nI j))]) hx hb dX1_isTaken_35 hl (k := 1) rfl (nI_1 i) (by decide) rfl (fun ls hl => ?_)
            refine lv_goto (tgt := 9) hx hb dX1_isTaken_38 (by decide) ?_
            exact ih (i + 1) (by omega) (by omega) ls (lv_sub hl [0, 1, 2, 3] rfl)
          · have he : OP i = j := (nI_eq (by have := hOP i hin; omega) (by omega)).mp h3
            refine lv_iconst (v := 1) hx hb dX1_isTaken_29 (by decide) ?_
            refine lv_goto (tgt := 34) hx hb dX1_isTaken_30 (by decide) ?_
            refine xa_top (y := xb (xtk TO OP j (i + 1))) (xb1 (by simp [xtk, he])) ?_
            refine lv_istore_n (lv' := [(2, .int (xb (xtk TO OP j (i + 1)))), (3, .int (nI i)), (0, .ref (A 0)), (1, .int (nI j))]) hx hb dX1_isTaken_34 rfl hl (by decide) rfl (fun ls hl => ?_)
            refine lv_iinc (v := nI (i + 1)) (lv' := [(3, .int (nI (i + 1))), (2, .int (xb (xtk TO OP j (i + 1)))), (0, .ref (A 0)), (1, .int (nI j))]) hx hb dX1_isTaken_35 hl (k := 1) rfl (nI_1 i) (by decide) rfl (fun ls hl => ?_)
            refine lv_goto (tgt := 9) hx hb dX1_isTaken_38 (by decide) ?_
            exact ih (i + 1) (by omega) (by omega) ls (lv_sub hl [0, 1, 2, 3] rfl)
  refine lv_aload_n hx hb dX1_isTaken_0 rfl (lv_at hl 0 rfl) ?_
  refine va_get (D := D) (ci := 1) (v := .ref (A 3)) (C := RX1) (T := TX1) (N := 9) hx hb ht xin_X1 hown hK hP 0 rfl rfl 4 (by decide) (ht _ kfl_RX1_16) (fun _ h9 => h9) rfl dX1_isTaken_1 ?_
  refine lv_iload_n hx hb dX1_isTaken_4 rfl (lv_at hl 1 rfl) ?_
  refine xa_zld hx hb hK hP 3 2 rfl rfl (v := xb (TO j)) hj (by decide) rfl dX1_isTaken_5 ?_
  refine lv_istore_n (lv' := [(2, .int (xb (TO j))), (0, .ref (A 0)), (1, .int (nI j))]) hx hb dX1_isTaken_6 rfl hl (by decide) rfl (fun ls hl => ?_)
  refine lv_iconst (v := 0) hx hb dX1_isTaken_7 (by decide) ?_
  refine lv_istore_n (lv' := [(3, .int 0), (2, .int (xb (TO j))), (0, .ref (A 0)), (1, .int (nI j))]) hx hb dX1_isTaken_8 rfl hl (by decide) rfl (fun ls hl => ?_)
  exact loop 7 0 (by omega) (by omega) ls (lv_sub hl [0, 1, 2, 3] rfl)

set_option maxHeartbeats 4000000 in
set_option maxRecDepth 100000 in
/-- inUse -/
theorem m_inUse (l : Launch) (D : va_G) (A : Nat → Nat) (K : Nat → ClassId) (th n : Nat) (V TV TO : Nat → Bool) (AG OP NX : Nat → Nat) (TK : Nat) (j : Nat) (hj : j < 128) : Met l yX1_inUse (xw yX1_inUse cX1_inUse 4 (some .int)) ({ frames := 0, cells := 0, slots := 0, locals := 0 }) (xk_P [.ref (A 0), .int (nI j)] D (xm_T K) (xm_W A K th n V TV TO AG OP NX TK)) (vp_Si (fun r => r = nI (xmu V j))) 0 0 (fun _ => False) := by
  refine Met.ofW (cc := cX1_inUse) (maxL := 4) (ret := (some .int)) (by decide) rfl ?_
  intro p e s m args below meth c s₁ B0 hml hv
  obtain ⟨rfl, hP, hK⟩ := hv
  have hx := B0.exec
  have hb := B0.bytes
  have hr := B0.returns
  have ht : ∀ w ∈ xT, w.before _ s = true := fun w h => atoms_spec (ws := xw yX1_inUse cX1_inUse 4 (some .int)) B0.pre w (List.mem_cons_of_mem _ h)
  have hown : s.vm.findClass RX1 = some m.cls := findClass_of_methodNamed B0.named
  have hlocks := B0.notSynchronized
  have hl := lv_entry ([.ref (A 0), .int (nI j)]) (n := 4) (Nat.le_of_ble_eq_true rfl)
  rw [lg_entry_eq]
  generalize (lg_sl ([.ref (A 0), .int (nI j)]) ++ List.replicate (4 - (lg_sl ([.ref (A 0), .int (nI j)])).length) Slot.unset).toArray = ls at hl ⊢
  have hl : lv_has ls 4 [(0, .ref (A 0)), (1, .int (nI j))] := hl
  have loop : ∀ (f i : Nat), i ≤ 16 → 16 + 1 ≤ i + f → ∀ ls : Array Slot, lv_has ls 4 [(3, .int (nI i)), (2, .int (nI (xcnt (fun k => (V (16 * j + k)).toNat) i))), (0, .ref (A 0)), (1, .int (nI j))] → W p l e (headSpec (xw yX1_inUse cX1_inUse 4 (some .int)) ({ frames := 0, cells := 0, slots := 0, locals := 0 })).room s m ([.ref (A 0), .int (nI j)] : List Value).toArray below meth c s.heap [] 0 0 (MQ below (vp_Si (fun r => r = nI (xmu V j))) ([.ref (A 0), .int (nI j)] : List Value).toArray s 0 0 (fun _ => False)) (F0 m 4 ls []) := by
    intro f
    induction f with
    | zero => intro i h1 h2; exact absurd h2 (by omega)
    | succ f ih =>
      intro i hi hf ls hl
      refine lv_iload_n hx hb dX1_inUse_4 rfl (lv_at hl 0 rfl) ?_
      refine lv_bipush (v := 16) hx hb dX1_inUse_5 (by decide) ?_
      refine lv_icmp_ge (tgt := 38) hx hb dX1_inUse_7 (by decide) (fun h1 => ?_) (fun h1 => ?_)
      · have hin : i = 16 := by
          rcases Nat.lt_or_ge i 16 with q | q
          · exact absurd h1 (nI_ge (b := 16) q (by omega))
          · omega
        subst hin
        refine lv_iload_n hx hb dX1_inUse_38 rfl (lv_at hl 1 rfl) ?_
        exact W.iret (v := nI (xcnt (fun k => (V (16 * j + k)).toNat) 16)) hx hb hr (fun t ht hW => ⟨nI (xcnt (fun k => (V (16 * j + k)).toNat) 16), rfl, rfl, ht⟩) (fun _ h => by cases h) dX1_inUse_39
      · have hin : i < 16 := by
          rcases Nat.lt_or_ge i 16 with q | q
          · exact q
          · exact absurd (nI_le (a := 16) q (by omega)) h1
        refine lv_iload_n hx hb dX1_inUse_10 rfl (lv_at hl 1 rfl) ?_
        refine lv_aload_n hx hb dX1_inUse_11 rfl (lv_at hl 2 rfl) ?_
        refine va_get (D := D) (ci := 1) (v := .ref (A 1)) (C := RX1) (T := TX1) (N := 9) hx hb ht xin_X1 hown hK hP 0 rfl rfl 2 (by decide) (ht _ kfl_RX1_7) (fun _ h9 => h9) rfl dX1_inUse_12 ?_
        refine lv_bipush (v := 16) hx hb dX1_inUse_15 (by decide) ?_
        refine lv_iload_n hx hb dX1_inUse_17 rfl (lv_at hl 3 rfl) ?_
        refine lv_imul hx hb dX1_inUse_18 ?_
        refine lv_iload_n hx hb dX1_inUse_19 rfl (lv_at hl 0 rfl) ?_
        refine lv_iadd hx hb dX1_inUse_20 ?_
        refine xa_top (y := nI (16 * j + i)) (xix j i) ?_
        refine xa_zld hx hb hK hP 1 0 rfl rfl (v := xb (V (16 * j + i))) (show 16 * j + i < 2048 by omega) (by decide) rfl dX1_inUse_21 ?_
        refine lv_if_eq (tgt := 29) hx hb dX1_inUse_22 (by decide) (fun h2 => ?_) (fun h2 => ?_)
        · rw [xb_0] at h2
          refine lv_iconst (v := 0) hx hb dX1_inUse_29 (by decide) ?_
          refine lv_iadd hx hb dX1_inUse_30 ?_
          refine xa_top (y := nI (xcnt (fun k => (V (16 * j + k)).toNat) (i + 1))) (by rw [xcnt, h2]; exact nI_add _ 0) ?_
          refine lv_istore_n (lv' := [(2, .int (nI (xcnt (fun k => (V (16 * j + k)).toNat) (i + 1)))), (3, .int (nI i)), (0, .ref (A 0)), (1, .int (nI j))]) hx hb dX1_inUse_31 rfl hl (by decide) rfl (fun ls hl => ?_)
          refine lv_iinc (v := nI (i + 1)) (lv' := [(3, .int (nI (i + 1))), (2, .int (nI (xcnt (fun k => (V (16 * j + k)).toNat) (i + 1)))), (0, .ref (A 0)), (1, .int (nI j))]) hx hb dX1_inUse_32 hl (k := 1) rfl (nI_1 i) (by decide) rfl (fun ls hl => ?_)
          refine lv_goto (tgt := 4) hx hb dX1_inUse_35 (by decide) ?_
          exact ih (i + 1) (by omega) (by omega) ls (lv_sub hl [0, 1, 2, 3] rfl)
        · rw [xb_n0] at h2
          refine lv_iconst (v := 1) hx hb dX1_inUse_25 (by decide) ?_
          refine lv_goto (tgt := 30) hx hb dX1_inUse_26 (by decide) ?_
          refine lv_iadd hx hb dX1_inUse_30 ?_
          refine xa_top (y := nI (xcnt (fun k => (V (16 * j + k)).toNat) (i + 1))) (by rw [xcnt, h2]; exact nI_add _ 1) ?_
          refine lv_istore_n (lv' := [(2, .int (nI (xcnt (fun k => (V (16 * j + k)).toNat) (i + 1)))), (3, .int (nI i)), (0, .ref (A 0)), (1, .int (nI j))]) hx hb dX1_inUse_31 rfl hl (by decide) rfl (fun ls hl => ?_)
          refine lv_iinc (v := nI (i + 1)) (lv' := [(3, .int (nI (i + 1))), (2, .int (nI (xcnt (fun k => (V (16 * j + k)).toNat) (i + 1)))), (0, .ref (A 0)), (1, .int (nI j))]) hx hb dX1_inUse_32 hl (k := 1) rfl (nI_1 i) (by decide) rfl (fun ls hl => ?_)
          refine lv_goto (tgt := 4) hx hb dX1_inUse_35 (by decide) ?_
          exact ih (i + 1) (by omega) (by omega) ls (lv_sub hl [0, 1, 2, 3] rfl)
  refine lv_iconst (v := 0) hx hb dX1_inUse_0 (by decide) ?_
  refine lv_istore_n (lv' := [(2, .int 0), (0, .ref (A 0)), (1, .int (nI j))]) hx hb dX1_inUse_1 rfl hl (by decide) rfl (fun ls hl => ?_)
  refine lv_iconst (v := 0) hx hb dX1_inUse_2 (by decide) ?_
  refine lv_istore_n (lv' := [(3, .int 0), (2, .int 0), (0, .ref (A 0)), (1, .int (nI j))]) hx hb dX1_inUse_3 rfl hl (by decide) rfl (fun ls hl => ?_)
  exact loop 17 0 (by omega) (by omega) ls (lv_sub hl [0, 1, 2, 3] rfl)

set_option maxHeartbeats 4000000 in
set_option maxRecDepth 100000 in
/-- isFree -/
theorem m_isFree (l : Launch) (D : va_G) (A : Nat → Nat) (K : Nat → ClassId) (th n : Nat) (V TV TO : Nat → Bool) (AG OP NX : Nat → Nat) (TK : Nat) (hOP : ∀ q, q < 6 → OP q < 128) (j : Nat) (hj : j < 128) : Met l yX1_isFree (xw yX1_isFree cX1_isFree 4 (some .boolean)) ({ frames := 1, cells := 0, slots := 0, locals := 23 }) (xk_P [.ref (A 0), .int (nI j)] D (xm_T K) (xm_W A K th n V TV TO AG OP NX TK)) (vp_Si (fun r => r = xb (xmfr V TV TO OP j))) 0 0 (fun _ => False) := by
  refine Met.ofW (cc := cX1_isFree) (maxL := 4) (ret := (some .boolean)) (by decide) rfl ?_
  intro p e s m args below meth c s₁ B0 hml hv
  obtain ⟨rfl, hP, hK⟩ := hv
  have hx := B0.exec
  have hb := B0.bytes
  have hr := B0.returns
  have ht : ∀ w ∈ xT, w.before _ s = true := fun w h => atoms_spec (ws := xw yX1_isFree cX1_isFree 4 (some .boolean)) B0.pre w (List.mem_cons_of_mem _ h)
  have hown : s.vm.findClass RX1 = some m.cls := findClass_of_methodNamed B0.named
  have hlocks := B0.notSynchronized
  have hl := lv_entry ([.ref (A 0), .int (nI j)]) (n := 4) (Nat.le_of_ble_eq_true rfl)
  rw [lg_entry_eq]
  generalize (lg_sl ([.ref (A 0), .int (nI j)]) ++ List.replicate (4 - (lg_sl ([.ref (A 0), .int (nI j)])).length) Slot.unset).toArray = ls at hl ⊢
  have hl : lv_has ls 4 [(0, .ref (A 0)), (1, .int (nI j))] := hl
  have loop : ∀ (f i : Nat), i ≤ 16 → 16 + 1 ≤ i + f → ∀ ls : Array Slot, lv_has ls 4 [(3, .int (nI i)), (2, .int (xb (xmf V TV (xtk TO OP j 6) j i))), (0, .ref (A 0)), (1, .int (nI j))] → W p l e (headSpec (xw yX1_isFree cX1_isFree 4 (some .boolean)) ({ frames := 1, cells := 0, slots := 0, locals := 23 })).room s m ([.ref (A 0), .int (nI j)] : List Value).toArray below meth c s.heap [] 0 0 (MQ below (vp_Si (fun r => r = xb (xmfr V TV TO OP j))) ([.ref (A 0), .int (nI j)] : List Value).toArray s 0 0 (fun _ => False)) (F0 m 16 ls []) := by
    intro f
    induction f with
    | zero => intro i h1 h2; exact absurd h2 (by omega)
    | succ f ih =>
      intro i hi hf ls hl
      refine lv_iload_n hx hb dX1_isFree_16 rfl (lv_at hl 0 rfl) ?_
      refine lv_bipush (v := 16) hx hb dX1_isFree_17 (by decide) ?_
      refine lv_icmp_ge (tgt := 66) hx hb dX1_isFree_19 (by decide) (fun h1 => ?_) (fun h1 => ?_)
      · have hin : i = 16 := by
          rcases Nat.lt_or_ge i 16 with q | q
          · exact absurd h1 (nI_ge (b := 16) q (by omega))
          · omega
        subst hin
        refine lv_iload_n hx hb dX1_isFree_66 rfl (lv_at hl 1 rfl) ?_
        exact W.zret (v := xb (xmf V TV (xtk TO OP j 6) j 16)) (ty := .boolean) hx hb hr (xn_b' _) (fun t ht hW => ⟨xb (xmf V TV (xtk TO OP j 6) j 16), rfl, rfl, ht⟩) (fun _ h => by cases h) dX1_isFree_67
      · have hin : i < 16 := by
          rcases Nat.lt_or_ge i 16 with q | q
          · exact q
          · exact absurd (nI_le (a := 16) q (by omega)) h1
        refine lv_iload_n hx hb dX1_isFree_22 rfl (lv_at hl 1 rfl) ?_
        refine lv_if_eq (tgt := 58) hx hb dX1_isFree_23 (by decide) (fun h2 => ?_) (fun h2 => ?_)
        · rw [xb_0] at h2
          refine lv_iconst (v := 0) hx hb dX1_isFree_58 (by decide) ?_
          refine xa_top (y := xb (xmf V TV (xtk TO OP j 6) j (i + 1))) (xb00 (by rw [xmf, h2]; rfl)) ?_
          refine lv_istore_n (lv' := [(2, .int (xb (xmf V TV (xtk TO OP j 6) j (i + 1)))), (3, .int (nI i)), (0, .ref (A 0)), (1, .int (nI j))]) hx hb dX1_isFree_59 rfl hl (by decide) rfl (fun ls hl => ?_)
          refine lv_iinc (v := nI (i + 1)) (lv' := [(3, .int (nI (i + 1))), (2, .int (xb (xmf V TV (xtk TO OP j 6) j (i + 1)))), (0, .ref (A 0)), (1, .int (nI j))]) hx hb dX1_isFree_60 hl (k := 1) rfl (nI_1 i) (by decide) rfl (fun ls hl => ?_)
          refine lv_goto (tgt := 16) hx hb dX1_isFree_63 (by decide) ?_
          exact ih (i + 1) (by omega) (by omega) ls (lv_sub hl [0, 1, 2, 3] rfl)
        · rw [xb_n0] at h2
          refine lv_aload_n hx hb dX1_isFree_26 rfl (lv_at hl 2 rfl) ?_
          refine va_get (D := D) (ci := 1) (v := .ref (A 1)) (C := RX1) (T := TX1) (N := 9) hx hb ht xin_X1 hown hK hP 0 rfl rfl 2 (by decide) (ht _ kfl_RX1_7) (fun _ h9 => h9) rfl dX1_isFree_27 ?_
          refine lv_bipush (v := 16) hx hb dX1_isFree_30 (by decide) ?_
          refine lv_iload_n hx hb dX1_isFree_32 rfl (lv_at hl 3 rfl) ?_
          refine lv_imul hx hb dX1_isFree_33 ?_
          refine lv_iload_n hx hb dX1_isFree_34 rfl (lv_at hl 0 rfl) ?_
          refine lv_iadd hx hb dX1_isFree_35 ?_
          refine xa_top (y := nI (16 * j + i)) (xix j i) ?_
          refine xa_zld hx hb hK hP 1 0 rfl rfl (v := xb (V (16 * j + i))) (show 16 * j + i < 2048 by omega) (by decide) rfl dX1_isFree_36 ?_
          refine lv_if_ne (tgt := 58) hx hb dX1_isFree_37 (by decide) (fun h3 => ?_) (fun h3 => ?_)
          · rw [xb_n0] at h3
            refine lv_iconst (v := 0) hx hb dX1_isFree_58 (by decide) ?_
            refine xa_top (y := xb (xmf V TV (xtk TO OP j 6) j (i + 1))) (xb00 (by rw [xmf, h2, h3]; rfl)) ?_
            refine lv_istore_n (lv' := [(2, .int (xb (xmf V TV (xtk TO OP j 6) j (i + 1)))), (3, .int (nI i)), (0, .ref (A 0)), (1, .int (nI j))]) hx hb dX1_isFree_59 rfl hl (by decide) rfl (fun ls hl => ?_)
            refine lv_iinc (v := nI (i + 1)) (lv' := [(3, .int (nI (i + 1))), (2, .int (xb (xmf V TV (xtk TO OP j 6) j (i + 1)))), (0, .ref (A 0)), (1, .int (nI j))]) hx hb dX1_isFree_60 hl (k := 1) rfl (nI_1 i) (by decide) rfl (fun ls hl => ?_)
            refine lv_goto (tgt := 16) hx hb dX1_isFree_63 (by decide) ?_
            exact ih (i + 1) (by omega) (by omega) ls (lv_sub hl [0, 1, 2, 3] rfl)
          · rw [xb_0] at h3
            refine lv_aload_n hx hb dX1_isFree_40 rfl (lv_at hl 2 rfl) ?_
            refine va_get (D := D) (ci := 1) (v := .ref (A 2)) (C := RX1) (T := TX1) (N := 9) hx hb ht xin_X1 hown hK hP 0 rfl rfl 3 (by decide) (ht _ kfl_RX1_13) (fun _ h9 => h9) rfl dX1_isFree_41 ?_
            refine lv_bipush (v := 16) hx hb dX1_isFree_44 (by decide) ?_
            refine lv_iload_n hx hb dX1_isFree_46 rfl (lv_at hl 3 rfl) ?_
            refine lv_imul hx hb dX1_isFree_47 ?_
            refine lv_iload_n hx hb dX1_isFree_48 rfl (lv_at hl 0 rfl) ?_
            refine lv_iadd hx hb dX1_isFree_49 ?_
            refine xa_top (y := nI (16 * j + i)) (xix j i) ?_
            refine xa_zld hx hb hK hP 2 1 rfl rfl (v := xb (TV (16 * j + i))) (show 16 * j + i < 2048 by omega) (by decide) rfl dX1_isFree_50 ?_
            refine lv_if_ne (tgt := 58) hx hb dX1_isFree_51 (by decide) (fun h4 => ?_) (fun h4 => ?_)
            · rw [xb_n0] at h4
              refine lv_iconst (v := 0) hx hb dX1_isFree_58 (by decide) ?_
              refine xa_top (y := xb (xmf V TV (xtk TO OP j 6) j (i + 1))) (xb00 (by rw [xmf, h2, h3, h4]; rfl)) ?_
              refine lv_istore_n (lv' := [(2, .int (xb (xmf V TV (xtk TO OP j 6) j (i + 1)))), (3, .int (nI i)), (0, .ref (A 0)), (1, .int (nI j))]) hx hb dX1_isFree_59 rfl hl (by decide) rfl (fun ls hl => ?_)
              refine lv_iinc (v := nI (i + 1)) (lv' := [(3, .int (nI (i + 1))), (2, .int (xb (xmf V TV (xtk TO OP j 6) j (i + 1)))), (0, .ref (A 0)), (1, .int (nI j))]) hx hb dX1_isFree_60 hl (k := 1) rfl (nI_1 i) (by decide) rfl (fun ls hl => ?_)
              refine lv_goto (tgt := 16) hx hb dX1_isFree_63 (by decide) ?_
              exact ih (i + 1) (by omega) (by omega) ls (lv_sub hl [0, 1, 2, 3] rfl)
            · rw [xb_0] at h4
              refine lv_iconst (v := 1) hx hb dX1_isFree_54 (by decide) ?_
              refine lv_goto (tgt := 59) hx hb dX1_isFree_55 (by decide) ?_
              refine xa_top (y := xb (xmf V TV (xtk TO OP j 6) j (i + 1))) (xb1 (by rw [xmf, h2, h3, h4]; rfl)) ?_
              refine lv_istore_n (lv' := [(2, .int (xb (xmf V TV (xtk TO OP j 6) j (i + 1)))), (3, .int (nI i)), (0, .ref (A 0)), (1, .int (nI j))]) hx hb dX1_isFree_59 rfl hl (by decide) rfl (fun ls hl => ?_)
              refine lv_iinc (v := nI (i + 1)) (lv' := [(3, .int (nI (i + 1))), (2, .int (xb (xmf V TV (xtk TO OP j 6) j (i + 1)))), (0, .ref (A 0)), (1, .int (nI j))]) hx hb dX1_isFree_60 hl (k := 1) rfl (nI_1 i) (by decide) rfl (fun ls hl => ?_)
              refine lv_goto (tgt := 16) hx hb dX1_isFree_63 (by decide) ?_
              exact ih (i + 1) (by omega) (by omega) ls (lv_sub hl [0, 1, 2, 3] rfl)
  refine lv_aload_n hx hb dX1_isFree_0 rfl (lv_at hl 0 rfl) ?_
  refine lv_iload_n hx hb dX1_isFree_1 rfl (lv_at hl 1 rfl) ?_
  refine xr_V (n := 1) (As := [.int (nI j)]) (rest := []) ⟨hx, hb, hml, hown, ht⟩ (m_isTaken l D A K th n V TV TO AG OP NX TK hOP j hj) (xg_V kml_RX1_36 kim_yX1_isTaken ksl_yX1_isTaken kin_RX1 kco_yX1_isTaken) ⟨rfl, rfl⟩ (by decide +kernel) ⟨Nat.le_of_ble_eq_true rfl, Nat.le_of_ble_eq_true rfl⟩ (xk_preV hP hK rfl rfl) rfl hl.1 rfl (Nat.le_of_ble_eq_true rfl) dX1_isFree_2 ⟨Nat.le_of_ble_eq_true rfl, Nat.le_of_ble_eq_true rfl⟩ (fun r1 e1 => ?_)
  subst e1
  refine lv_if_ne (tgt := 12) hx hb dX1_isFree_5 (by decide) (fun h0 => ?_) (fun h0 => ?_)
  · rw [xb_n0] at h0
    refine lv_iconst (v := 0) hx hb dX1_isFree_12 (by decide) ?_
    refine xa_top (y := xb (xmf V TV (xtk TO OP j 6) j 0)) (by rw [xmf, h0]; rfl) ?_
    refine lv_istore_n (lv' := [(2, .int (xb (xmf V TV (xtk TO OP j 6) j 0))), (0, .ref (A 0)), (1, .int (nI j))]) hx hb dX1_isFree_13 rfl hl (by decide) rfl (fun ls hl => ?_)
    refine lv_iconst (v := 0) hx hb dX1_isFree_14 (by decide) ?_
    refine lv_istore_n (lv' := [(3, .int 0), (2, .int (xb (xmf V TV (xtk TO OP j 6) j 0))), (0, .ref (A 0)), (1, .int (nI j))]) hx hb dX1_isFree_15 rfl hl (by decide) rfl (fun ls hl => ?_)
    exact loop 17 0 (by omega) (by omega) ls (lv_sub hl [0, 1, 2, 3] rfl)
  · rw [xb_0] at h0
    refine lv_iconst (v := 1) hx hb dX1_isFree_8 (by decide) ?_
    refine lv_goto (tgt := 13) hx hb dX1_isFree_9 (by decide) ?_
    refine xa_top (y := xb (xmf V TV (xtk TO OP j 6) j 0)) (by rw [xmf, h0]; rfl) ?_
    refine lv_istore_n (lv' := [(2, .int (xb (xmf V TV (xtk TO OP j 6) j 0))), (0, .ref (A 0)), (1, .int (nI j))]) hx hb dX1_isFree_13 rfl hl (by decide) rfl (fun ls hl => ?_)
    refine lv_iconst (v := 0) hx hb dX1_isFree_14 (by decide) ?_
    refine lv_istore_n (lv' := [(3, .int 0), (2, .int (xb (xmf V TV (xtk TO OP j 6) j 0))), (0, .ref (A 0)), (1, .int (nI j))]) hx hb dX1_isFree_15 rfl hl (by decide) rfl (fun ls hl => ?_)
    exact loop 17 0 (by omega) (by omega) ls (lv_sub hl [0, 1, 2, 3] rfl)

set_option maxHeartbeats 4000000 in
set_option maxRecDepth 100000 in
/-- lowest -/
theorem m_lowest (l : Launch) (D : va_G) (A : Nat → Nat) (K : Nat → ClassId) (th n : Nat) (V TV TO : Nat → Bool) (AG OP NX : Nat → Nat) (TK : Nat) (hn : n ≤ 128) (hOP : ∀ q, q < 6 → OP q < 128) : Met l yX1_lowest (xw yX1_lowest cX1_lowest 2 (some .int)) ({ frames := 2, cells := 0, slots := 0, locals := 46 }) (xk_P [.ref (A 0)] D (xm_T K) (xm_W A K th n V TV TO AG OP NX TK)) (vp_Si (fun r => (∃ j : Nat, j < n ∧ xmfr V TV TO OP j = true ∧ (∀ i, i < j → xmfr V TV TO OP i = false) ∧ r = nI j) ∨ ((∀ i, i < n → xmfr V TV TO OP i = false) ∧ r = -1))) 0 0 (fun _ => False) := by
  refine Met.ofW (cc := cX1_lowest) (maxL := 2) (ret := (some .int)) (by decide) rfl ?_
  intro p e s m args below meth c s₁ B0 hml hv
  obtain ⟨rfl, hP, hK⟩ := hv
  have hx := B0.exec
  have hb := B0.bytes
  have hr := B0.returns
  have ht : ∀ w ∈ xT, w.before _ s = true := fun w h => atoms_spec (ws := xw yX1_lowest cX1_lowest 2 (some .int)) B0.pre w (List.mem_cons_of_mem _ h)
  have hown : s.vm.findClass RX1 = some m.cls := findClass_of_methodNamed B0.named
  have hlocks := B0.notSynchronized
  have hl := lv_entry ([.ref (A 0)]) (n := 2) (Nat.le_of_ble_eq_true rfl)
  rw [lg_entry_eq]
  generalize (lg_sl ([.ref (A 0)]) ++ List.replicate (2 - (lg_sl ([.ref (A 0)])).length) Slot.unset).toArray = ls at hl ⊢
  have hl : lv_has ls 2 [(0, .ref (A 0))] := hl
  have loop : ∀ (f i : Nat), i ≤ n → n + 1 ≤ i + f → (∀ q, q < i → xmfr V TV TO OP q = false) → ∀ ls : Array Slot, lv_has ls 2 [(1, .int (nI i)), (0, .ref (A 0))] → W p l e (headSpec (xw yX1_lowest cX1_lowest 2 (some .int)) ({ frames := 2, cells := 0, slots := 0, locals := 46 })).room s m ([.ref (A 0)] : List Value).toArray below meth c s.heap [] 0 0 (MQ below (vp_Si (fun r => (∃ j : Nat, j < n ∧ xmfr V TV TO OP j = true ∧ (∀ i, i < j → xmfr V TV TO OP i = false) ∧ r = nI j) ∨ ((∀ i, i < n → xmfr V TV TO OP i = false) ∧ r = -1))) ([.ref (A 0)] : List Value).toArray s 0 0 (fun _ => False)) (F0 m 2 ls []) := by
    intro f
    induction f with
    | zero => intro i h1 h2; exact absurd h2 (by omega)
    | succ f ih =>
      intro i hi hf hc ls hl
      refine lv_iload_n hx hb dX1_lowest_2 rfl (lv_at hl 0 rfl) ?_
      refine lv_aload_n hx hb dX1_lowest_3 rfl (lv_at hl 1 rfl) ?_
      refine va_get (D := D) (ci := 1) (v := .int (nI n)) (C := RX1) (T := TX1) (N := 9) hx hb ht xin_X1 hown hK hP 0 rfl rfl 1 (by decide) (ht _ kfl_RX1_29) (fun _ h9 => h9) rfl dX1_lowest_4 ?_
      refine lv_icmp_ge (tgt := 24) hx hb dX1_lowest_7 (by decide) (fun h1 => ?_) (fun h1 => ?_)
      · have hin : i = n := by
          rcases Nat.lt_or_ge i n with q | q
          · exact absurd h1 (nI_ge q (by omega))
          · omega
        subst hin
        refine lv_iload_n hx hb dX1_lowest_24 rfl (lv_at hl 0 rfl) ?_
        refine lv_aload_n hx hb dX1_lowest_25 rfl (lv_at hl 1 rfl) ?_
        refine va_get (D := D) (ci := 1) (v := .int (nI i)) (C := RX1) (T := TX1) (N := 9) hx hb ht xin_X1 hown hK hP 0 rfl rfl 1 (by decide) (ht _ kfl_RX1_29) (fun _ h9 => h9) rfl dX1_lowest_26 ?_
        refine lv_icmp_ge (tgt := 36) hx hb dX1_lowest_29 (by decide) (fun h2 => ?_) (fun h2 => ?_)
        · refine lv_iconst (v := -1) hx hb dX1_lowest_36 (by decide) ?_
          exact W.iret (v := (-1)) hx hb hr (fun t ht hW => ⟨(-1), rfl, Or.inr ⟨hc, rfl⟩, ht⟩) (fun _ h => by cases h) dX1_lowest_37
        · exact absurd (nI_le (Nat.le_refl i) (by omega)) h2
      · have hin : i < n := by
          rcases Nat.lt_or_ge i n with q | q
          · exact q
          · exact absurd (nI_le q (by omega)) h1
        refine lv_aload_n hx hb dX1_lowest_10 rfl (lv_at hl 1 rfl) ?_
        refine lv_iload_n hx hb dX1_lowest_11 rfl (lv_at hl 0 rfl) ?_
        refine xr_V (n := 1) (As := [.int (nI i)]) (rest := []) ⟨hx, hb, hml, hown, ht⟩ (m_isFree l D A K th n V TV TO AG OP NX TK hOP i (by omega)) (xg_V kml_RX1_40 kim_yX1_isFree ksl_yX1_isFree kin_RX1 kco_yX1_isFree) ⟨rfl, rfl⟩ (by decide +kernel) ⟨Nat.le_of_ble_eq_true rfl, Nat.le_of_ble_eq_true rfl⟩ (xk_preV hP hK rfl rfl) rfl hl.1 rfl (Nat.le_of_ble_eq_true rfl) dX1_lowest_12 ⟨Nat.le_of_ble_eq_true rfl, Nat.le_of_ble_eq_true rfl⟩ (fun r1 e1 => ?_)
        subst e1
        refine lv_if_ne (tgt := 24) hx hb dX1_lowest_15 (by decide) (fun h2 => ?_) (fun h2 => ?_)
        · rw [xb_n0] at h2
          refine lv_iload_n hx hb dX1_lowest_24 rfl (lv_at hl 0 rfl) ?_
          refine lv_aload_n hx hb dX1_lowest_25 rfl (lv_at hl 1 rfl) ?_
          refine va_get (D := D) (ci := 1) (v := .int (nI n)) (C := RX1) (T := TX1) (N := 9) hx hb ht xin_X1 hown hK hP 0 rfl rfl 1 (by decide) (ht _ kfl_RX1_29) (fun _ h9 => h9) rfl dX1_lowest_26 ?_
          refine lv_icmp_ge (tgt := 36) hx hb dX1_lowest_29 (by decide) (fun h3 => ?_) (fun h3 => ?_)
          · exact absurd h3 h1
          · refine lv_iload_n hx hb dX1_lowest_32 rfl (lv_at hl 0 rfl) ?_
            refine lv_goto (tgt := 37) hx hb dX1_lowest_33 (by decide) ?_
            exact W.iret (v := nI i) hx hb hr (fun t ht hW => ⟨nI i, rfl, Or.inl ⟨i, hin, h2, hc, rfl⟩, ht⟩) (fun _ h => by cases h) dX1_lowest_37
        · rw [xb_0] at h2
          refine lv_iinc (v := nI (i + 1)) (lv' := [(1, .int (nI (i + 1))), (0, .ref (A 0))]) hx hb dX1_lowest_18 hl (k := 0) rfl (nI_1 i) (by decide) rfl (fun ls hl => ?_)
          refine lv_goto (tgt := 2) hx hb dX1_lowest_21 (by decide) ?_
          exact ih (i + 1) (by omega) (by omega) (lt_s hc h2) ls (lv_sub hl [0, 1] rfl)
  refine lv_iconst (v := 0) hx hb dX1_lowest_0 (by decide) ?_
  refine lv_istore_n (lv' := [(1, .int 0), (0, .ref (A 0))]) hx hb dX1_lowest_1 rfl hl (by decide) rfl (fun ls hl => ?_)
  exact loop (n + 1) 0 (by omega) (by omega) (fun q hq => absurd hq (by omega)) ls (lv_sub hl [0, 1] rfl)

set_option maxHeartbeats 4000000 in
set_option maxRecDepth 100000 in
/-- isNo -/
theorem m_isNo (l : Launch) (D : va_G) (A : Nat → Nat) (K : Nat → ClassId) (th n : Nat) (V TV TO : Nat → Bool) (AG OP NX : Nat → Nat) (TK : Nat) (x : Int32) (hn : n ≤ 128) : Met l yX1_isNo (xw yX1_isNo cX1_isNo 2 (some .boolean)) ({ frames := 0, cells := 0, slots := 0, locals := 0 }) (xk_P [.ref (A 0), .int x] D (xm_T K) (xm_W A K th n V TV TO AG OP NX TK)) (vp_Si (fun r => ((∃ j k : Nat, j < n ∧ k < 16 ∧ x = nI (96 + 16 * j + k)) ∧ r = xb false) ∨ ((¬ ∃ j k : Nat, j < n ∧ k < 16 ∧ x = nI (96 + 16 * j + k)) ∧ r = xb true))) 0 0 (fun _ => False) := by
  refine Met.ofW (cc := cX1_isNo) (maxL := 2) (ret := (some .boolean)) (by decide) rfl ?_
  intro p e s m args below meth c s₁ B0 hml hv
  obtain ⟨rfl, hP, hK⟩ := hv
  have hx := B0.exec
  have hb := B0.bytes
  have hr := B0.returns
  have ht : ∀ w ∈ xT, w.before _ s = true := fun w h => atoms_spec (ws := xw yX1_isNo cX1_isNo 2 (some .boolean)) B0.pre w (List.mem_cons_of_mem _ h)
  have hown : s.vm.findClass RX1 = some m.cls := findClass_of_methodNamed B0.named
  have hlocks := B0.notSynchronized
  have hl := lv_entry ([.ref (A 0), .int x]) (n := 2) (Nat.le_of_ble_eq_true rfl)
  rw [lg_entry_eq]
  generalize (lg_sl ([.ref (A 0), .int x]) ++ List.replicate (2 - (lg_sl ([.ref (A 0), .int x])).length) Slot.unset).toArray = ls at hl ⊢
  have hl : lv_has ls 2 [(0, .ref (A 0)), (1, .int x)] := hl
  have hq := xp_blk x hn
  refine lv_iload_n hx hb dX1_isNo_0 rfl (lv_at hl 1 rfl) ?_
  refine lv_bipush (v := 96) hx hb dX1_isNo_1 (by decide) ?_
  refine lv_icmp_lt (tgt := 20) hx hb dX1_isNo_3 (by decide) (fun h1 => ?_) (fun h1 => ?_)
  · have hno : ¬ ∃ j k : Nat, j < n ∧ k < 16 ∧ x = nI (96 + 16 * j + k) := by
      rintro ⟨j, k, hj, hk, rfl⟩
      exact nI_nlt (b := 96) (by omega) (by omega) h1
    refine lv_iconst (v := 1) hx hb dX1_isNo_20 (by decide) ?_
    refine lv_goto (tgt := 25) hx hb dX1_isNo_21 (by decide) ?_
    exact W.zret (v := 1) (ty := .boolean) hx hb hr (by decide) (fun t ht hW => ⟨1, rfl, Or.inr ⟨hno, rfl⟩, ht⟩) (fun _ h => by cases h) dX1_isNo_25
  · refine lv_iload_n hx hb dX1_isNo_6 rfl (lv_at hl 1 rfl) ?_
    refine lv_bipush (v := 96) hx hb dX1_isNo_7 (by decide) ?_
    refine lv_bipush (v := 16) hx hb dX1_isNo_9 (by decide) ?_
    refine lv_aload_n hx hb dX1_isNo_11 rfl (lv_at hl 0 rfl) ?_
    refine va_get (D := D) (ci := 1) (v := .int (nI n)) (C := RX1) (T := TX1) (N := 9) hx hb ht xin_X1 hown hK hP 0 rfl rfl 1 (by decide) (ht _ kfl_RX1_29) (fun _ h9 => h9) rfl dX1_isNo_12 ?_
    refine lv_imul hx hb dX1_isNo_15 ?_
    refine lv_iadd hx hb dX1_isNo_16 ?_
    have e9 : (96 : Int32) + 16 * nI n = nI (96 + 16 * n) := by rw [show (16 : Int32) = nI 16 from rfl, xp_96, pk_mul, nI_add]
    refine lv_icmp_lt (tgt := 24) hx hb dX1_isNo_17 (by decide) (fun h2 => ?_) (fun h2 => ?_)
    · rw [e9] at h2
      have hyes : ∃ j k : Nat, j < n ∧ k < 16 ∧ x = nI (96 + 16 * j + k) := by
        rcases hq with q | ⟨q | q, -⟩
        · exact q
        · exact absurd q h1
        · exact absurd h2 (Int32.not_lt.mpr q)
      refine lv_iconst (v := 0) hx hb dX1_isNo_24 (by decide) ?_
      exact W.zret (v := 0) (ty := .boolean) hx hb hr (by decide) (fun t ht hW => ⟨0, rfl, Or.inl ⟨hyes, rfl⟩, ht⟩) (fun _ h => by cases h) dX1_isNo_25
    · rw [e9] at h2
      have hno : ¬ ∃ j k : Nat, j < n ∧ k < 16 ∧ x = nI (96 + 16 * j + k) := by
        rintro ⟨j, k, hj, hk, rfl⟩
        exact h2 (nI_lt (by omega) (by omega))
      refine lv_iconst (v := 1) hx hb dX1_isNo_20 (by decide) ?_
      refine lv_goto (tgt := 25) hx hb dX1_isNo_21 (by decide) ?_
      exact W.zret (v := 1) (ty := .boolean) hx hb hr (by decide) (fun t ht hW => ⟨1, rfl, Or.inr ⟨hno, rfl⟩, ht⟩) (fun _ h => by cases h) dX1_isNo_25
