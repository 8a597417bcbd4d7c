def xvM (q : Option (Nat × Nat)) (bs bw : Int32) : Prop := match q with
  | none => bs = -1 ∧ bw = -1
  | some q => bs = nI q.1 ∧ bw = nI q.2 ∧ q.1 < 2 ^ 31 ∧ q.2 < 2 ^ 31
theorem xvM_R {q : Option (Nat × Nat)} {bs bw : Int32} (h : xvM q bs bw) : bs = xvR q := by
  cases q with
  | none => exact h.1
  | some q => exact h.1
def xmc (V TO : Nat → Bool) (OP : Nat → Nat) (j : Nat) : Bool := !xtk TO OP j 6 && (decide (0 < xmu V j) && decide (xmu V j < 16))
def xmw (g : Bool) (V : Nat → Bool) (AG : Nat → Nat) (TK j : Nat) : Nat := if g then (16 - xmu V j) * (TK - AG j + 1) / (xmu V j + 16) else 16 - xmu V j
theorem xmu_le (V : Nat → Bool) (j : Nat) : xmu V j ≤ 16 := Nat.le_trans (xcnt_le (b := 1) (fun k => by cases V (16 * j + k) <;> decide) 16) (by decide)
theorem xmw_lt {g : Bool} {V : Nat → Bool} {AG : Nat → Nat} {TK j : Nat} (hT : TK ≤ 100000) : xmw g V AG TK j < 2 ^ 31 := by
  unfold xmw
  cases g
  · simp; omega
  · have h1 : (16 - xmu V j) * (TK - AG j + 1) ≤ 16 * 100001 := Nat.mul_le_mul (by omega) (by omega)
    have h2 : (16 - xmu V j) * (TK - AG j + 1) / (xmu V j + 16) ≤ (16 - xmu V j) * (TK - AG j + 1) := Nat.div_le_self _ _
    simp; omega
def xdn (c : Nat) : Int32 := if c ≤ 15 then nI (15 - c) else -1
theorem xdn_s : ∀ c, c < 16 → xdn c + Int32.ofInt (-1) = xdn (c + 1) := by decide +kernel
theorem xdn_p : ∀ c, c < 16 → xdn c = nI (15 - c) := by decide +kernel
theorem xdn_n : ∀ c, c < 16 → ¬ xdn c < 0 := by decide +kernel
set_option maxHeartbeats 4000000 in
set_option maxRecDepth 100000 in
/-- free -/
theorem m_free (l : Launch) (D : va_G) (A : Nat → Nat) (K : Nat → ClassId) (th n : Nat) (V TV TO : Nat → Bool) (AG OP NX : Nat → Nat) (TK : Nat) (hn : n ≤ 128) (hOP : ∀ q, q < 6 → OP q < 128) (sz : Nat) : Met l yX1_free (xw yX1_free cX1_free 3 (some .int)) ({ frames := 2, cells := 0, slots := 0, locals := 46 }) (xk_M [.ref (A 0)] D (xm_T K) (xm_W A K th n V TV TO AG OP NX TK) sz) (xk_Q (fun v => v = some (.int (nI (xcnt (fun j => (xmfr V TV TO OP j).toNat) n)))) D (xm_W A K th n V TV TO AG OP NX TK) (xm_W A K 0 n V TV TO AG OP NX TK)) 0 0 (va_A (xm_W A K th n V TV TO AG OP NX TK) sz) := by
  refine Met.ofW (cc := cX1_free) (maxL := 3) (ret := (some .int)) (by decide) rfl ?_
  intro p e s m args below meth c s₁ B0 hml hv
  obtain ⟨rfl, hsz, hP, hK, hD0⟩ := hv
  have hx := B0.exec
  have hb := B0.bytes
  have hr := B0.returns
  have ht : ∀ w ∈ xT, w.before _ s = true := fun w h => atoms_spec (ws := xw yX1_free cX1_free 3 (some .int)) B0.pre w (List.mem_cons_of_mem _ h)
  have hown : s.vm.findClass RX1 = some m.cls := findClass_of_methodNamed B0.named
  have hlocks := B0.notSynchronized
  have hl := lv_entry ([.ref (A 0)]) (n := 3) (Nat.le_of_ble_eq_true rfl)
  rw [lg_entry_eq]
  generalize (lg_sl ([.ref (A 0)]) ++ List.replicate (3 - (lg_sl ([.ref (A 0)])).length) Slot.unset).toArray = ls at hl ⊢
  have hl : lv_has ls 3 [(0, .ref (A 0))] := hl
  subst hsz
  have hD := hD0.self (sz := s.heap.size)
  have hA : ∀ q : Nat, s.heap.size ≤ q → va_A (xm_W A K th n V TV TO AG OP NX TK) s.heap.size q := fun q h => Or.inr h
  have hS : va_S (va_A (xm_W A K th n V TV TO AG OP NX TK) s.heap.size) s.heap s.heap [] := va_S.rf
  refine lv_aload_n hx hb dX1_free_0 rfl (lv_at hl 0 rfl) ?_
  refine lv_iconst (v := 0) hx hb dX1_free_1 (by decide) ?_
  refine xa_top (y := nI 0) rfl ?_
  refine va_put (D := D) (ci := 1) (v := .int (nI 0)) (ty := .int) (C := RX1) (T := TX1) (N := 9) hx hb ht xin_X1 tyX1 tyX1_ok nmX1 hown hK hP hD hS 0 rfl rfl 0 (by decide) (ht _ kfl_RX1_33) (fun _ h9 => h9) rfl (by decide +kernel) rfl rfl (Nat.le_of_ble_eq_true rfl) dX1_free_2 (fun H locs hP hD hS => ?_)
  have hP : va_P D xcl (xm_W A K 0 n V TV TO AG OP NX TK) H := hP
  have hD : va_D (va_A (xm_W A K th n V TV TO AG OP NX TK) s.heap.size) (xm_W A K 0 n V TV TO AG OP NX TK) := hD
  refine lv_iconst (v := 0) hx hb dX1_free_5 (by decide) ?_
  refine lv_istore_n (lv' := [(1, .int 0), (0, .ref (A 0))]) hx hb dX1_free_6 rfl hl (by decide) rfl (fun ls hl => ?_)
  refine lv_iconst (v := 0) hx hb dX1_free_7 (by decide) ?_
  refine lv_istore_n (lv' := [(2, .int 0), (1, .int 0), (0, .ref (A 0))]) hx hb dX1_free_8 rfl hl (by decide) rfl (fun ls hl => ?_)
  have loop : ∀ (f i : Nat), i ≤ n → n + 1 ≤ i + f → ∀ ls : Array Slot, lv_has ls 3 [(2, .int (nI i)), (1, .int (nI (xcnt (fun j => (xmfr V TV TO OP j).toNat) i))), (0, .ref (A 0))] → W p l e (headSpec (xw yX1_free cX1_free 3 (some .int)) ({ frames := 2, cells := 0, slots := 0, locals := 46 })).room s m ([.ref (A 0)] : List Value).toArray below meth c H locs 0 0 (MQ below (xk_Q (fun v => v = some (.int (nI (xcnt (fun j => (xmfr V TV TO OP j).toNat) n)))) D (xm_W A K th n V TV TO AG OP NX TK) (xm_W A K 0 n V TV TO AG OP NX TK)) ([.ref (A 0)] : List Value).toArray s 0 0 (va_A (xm_W A K th n V TV TO AG OP NX TK) s.heap.size)) (F0 m 9 ls []) := by
    intro f
    induction f with
    | zero => intro i h1 h2; exact absurd h2 (by omega)
    | succ f ih =>
      intro i hi hf ls hl
      refine lv_iload_n hx hb dX1_free_9 rfl (lv_at hl 0 rfl) ?_
      refine lv_aload_n hx hb dX1_free_10 rfl (lv_at hl 2 rfl) ?_
      refine va_get (D := D) (ci := 1) (v := .int (nI n)) (C := RX1) (T := TX1) (N := 9) hx hb ht xin_X1 hown hK hP 0 rfl rfl 1 (by decide) (ht _ kfl_RX1_29) (fun _ h9 => h9) rfl dX1_free_11 ?_
      refine lv_icmp_ge (tgt := 39) hx hb dX1_free_14 (by decide) (fun h1 => ?_) (fun h1 => ?_)
      · have hin : i = n := by
          rcases Nat.lt_or_ge i n with q | q
          · exact absurd h1 (nI_ge (b := n) q (by omega))
          · omega
        subst hin
        refine lv_iload_n hx hb dX1_free_39 rfl (lv_at hl 1 rfl) ?_
        exact W.iret (v := nI (xcnt (fun j => (xmfr V TV TO OP j).toNat) i)) hx hb hr (fun t ht hW => ⟨⟨_, rfl, rfl⟩, by rw [ht]; exact hP, hS.F ht⟩) hS.2.2 dX1_free_40
      · have hin : i < n := by
          rcases Nat.lt_or_ge i n with q | q
          · exact q
          · exact absurd (nI_le (a := n) q (by omega)) h1
        refine lv_iload_n hx hb dX1_free_17 rfl (lv_at hl 1 rfl) ?_
        refine lv_aload_n hx hb dX1_free_18 rfl (lv_at hl 2 rfl) ?_
        refine lv_iload_n hx hb dX1_free_19 rfl (lv_at hl 0 rfl) ?_
        refine xr_V (n := 1) (As := [.int (nI i)]) (rest := [.int (nI (xcnt (fun j => (xmfr V TV TO OP j).toNat) i))]) ⟨hx, hb, hml, hown, ht⟩ (m_isFree l D A K 0 n V TV TO AG OP NX TK hOP i (by omega)) (xg_V kml_RX1_40 kim_yX1_isFree ksl_yX1_isFree kin_RX1 kco_yX1_isFree) ⟨rfl, rfl⟩ (by decide +kernel) ⟨Nat.le_of_ble_eq_true rfl, Nat.le_of_ble_eq_true rfl⟩ (xk_preV hP hK rfl rfl) rfl hl.1 rfl (Nat.le_of_ble_eq_true rfl) dX1_free_20 ⟨Nat.le_of_ble_eq_true rfl, Nat.le_of_ble_eq_true rfl⟩ (fun r1 e1 => ?_)
        subst e1
        refine lv_if_eq (tgt := 30) hx hb dX1_free_23 (by decide) (fun h2 => ?_) (fun h2 => ?_)
        · rw [xb_0] at h2
          refine lv_iconst (v := 0) hx hb dX1_free_30 (by decide) ?_
          refine lv_iadd hx hb dX1_free_31 ?_
          refine xa_top (y := nI (xcnt (fun j => (xmfr V TV TO OP j).toNat) (i + 1))) (by rw [xcnt, h2]; exact nI_add _ 0) ?_
          refine lv_istore_n (lv' := [(1, .int (nI (xcnt (fun j => (xmfr V TV TO OP j).toNat) (i + 1)))), (2, .int (nI i)), (0, .ref (A 0))]) hx hb dX1_free_32 rfl hl (by decide) rfl (fun ls hl => ?_)
          refine lv_iinc (v := nI (i + 1)) (lv' := [(2, .int (nI (i + 1))), (1, .int (nI (xcnt (fun j => (xmfr V TV TO OP j).toNat) (i + 1)))), (0, .ref (A 0))]) hx hb dX1_free_33 hl (k := 1) rfl (nI_1 i) (by decide) rfl (fun ls hl => ?_)
          refine lv_goto (tgt := 9) hx hb dX1_free_36 (by decide) ?_
          exact ih (i + 1) (by omega) (by omega) ls (lv_sub hl [0, 1, 2] rfl)
        · rw [xb_n0] at h2
          refine lv_iconst (v := 1) hx hb dX1_free_26 (by decide) ?_
          refine lv_goto (tgt := 31) hx hb dX1_free_27 (by decide) ?_
          refine lv_iadd hx hb dX1_free_31 ?_
          refine xa_top (y := nI (xcnt (fun j => (xmfr V TV TO OP j).toNat) (i + 1))) (by rw [xcnt, h2]; exact nI_add _ 1) ?_
          refine lv_istore_n (lv' := [(1, .int (nI (xcnt (fun j => (xmfr V TV TO OP j).toNat) (i + 1)))), (2, .int (nI i)), (0, .ref (A 0))]) hx hb dX1_free_32 rfl hl (by decide) rfl (fun ls hl => ?_)
          refine lv_iinc (v := nI (i + 1)) (lv' := [(2, .int (nI (i + 1))), (1, .int (nI (xcnt (fun j => (xmfr V TV TO OP j).toNat) (i + 1)))), (0, .ref (A 0))]) hx hb dX1_free_33 hl (k := 1) rfl (nI_1 i) (by decide) rfl (fun ls hl => ?_)
          refine lv_goto (tgt := 9) hx hb dX1_free_36 (by decide) ?_
          exact ih (i + 1) (by omega) (by omega) ls (lv_sub hl [0, 1, 2] rfl)
  exact loop (n + 1) 0 (by omega) (by omega) ls (lv_sub hl [0, 1, 2] rfl)

set_option maxHeartbeats 4000000 in
set_option maxRecDepth 100000 in
/-- used -/
theorem m_used (l : Launch) (D : va_G) (A : Nat → Nat) (K : Nat → ClassId) (th n : Nat) (V TV TO : Nat → Bool) (AG OP NX : Nat → Nat) (TK : Nat) (hn : n ≤ 128) (hOP : ∀ q, q < 6 → OP q < 128) (sz : Nat) : Met l yX1_used (xw yX1_used cX1_used 3 (some .int)) ({ frames := 1, cells := 0, slots := 0, locals := 23 }) (xk_M [.ref (A 0)] D (xm_T K) (xm_W A K th n V TV TO AG OP NX TK) sz) (xk_Q (fun v => v = some (.int (nI (xcnt (fun j => xmu V j) n)))) D (xm_W A K th n V TV TO AG OP NX TK) (xm_W A K 0 n V TV TO AG OP NX TK)) 0 0 (va_A (xm_W A K th n V TV TO AG OP NX TK) sz) := by
  refine Met.ofW (cc := cX1_used) (maxL := 3) (ret := (some .int)) (by decide) rfl ?_
  intro p e s m args below meth c s₁ B0 hml hv
  obtain ⟨rfl, hsz, hP, hK, hD0⟩ := hv
  have hx := B0.exec
  have hb := B0.bytes
  have hr := B0.returns
  have ht : ∀ w ∈ xT, w.before _ s = true := fun w h => atoms_spec (ws := xw yX1_used cX1_used 3 (some .int)) B0.pre w (List.mem_cons_of_mem _ h)
  have hown : s.vm.findClass RX1 = some m.cls := findClass_of_methodNamed B0.named
  have hlocks := B0.notSynchronized
  have hl := lv_entry ([.ref (A 0)]) (n := 3) (Nat.le_of_ble_eq_true rfl)
  rw [lg_entry_eq]
  generalize (lg_sl ([.ref (A 0)]) ++ List.replicate (3 - (lg_sl ([.ref (A 0)])).length) Slot.unset).toArray = ls at hl ⊢
  have hl : lv_has ls 3 [(0, .ref (A 0))] := hl
  subst hsz
  have hD := hD0.self (sz := s.heap.size)
  have hA : ∀ q : Nat, s.heap.size ≤ q → va_A (xm_W A K th n V TV TO AG OP NX TK) s.heap.size q := fun q h => Or.inr h
  have hS : va_S (va_A (xm_W A K th n V TV TO AG OP NX TK) s.heap.size) s.heap s.heap [] := va_S.rf
  refine lv_aload_n hx hb dX1_used_0 rfl (lv_at hl 0 rfl) ?_
  refine lv_iconst (v := 0) hx hb dX1_used_1 (by decide) ?_
  refine xa_top (y := nI 0) rfl ?_
  refine va_put (D := D) (ci := 1) (v := .int (nI 0)) (ty := .int) (C := RX1) (T := TX1) (N := 9) hx hb ht xin_X1 tyX1 tyX1_ok nmX1 hown hK hP hD hS 0 rfl rfl 0 (by decide) (ht _ kfl_RX1_33) (fun _ h9 => h9) rfl (by decide +kernel) rfl rfl (Nat.le_of_ble_eq_true rfl) dX1_used_2 (fun H locs hP hD hS => ?_)
  have hP : va_P D xcl (xm_W A K 0 n V TV TO AG OP NX TK) H := hP
  have hD : va_D (va_A (xm_W A K th n V TV TO AG OP NX TK) s.heap.size) (xm_W A K 0 n V TV TO AG OP NX TK) := hD
  refine lv_iconst (v := 0) hx hb dX1_used_5 (by decide) ?_
  refine lv_istore_n (lv' := [(1, .int 0), (0, .ref (A 0))]) hx hb dX1_used_6 rfl hl (by decide) rfl (fun ls hl => ?_)
  refine lv_iconst (v := 0) hx hb dX1_used_7 (by decide) ?_
  refine lv_istore_n (lv' := [(2, .int 0), (1, .int 0), (0, .ref (A 0))]) hx hb dX1_used_8 rfl hl (by decide) rfl (fun ls hl => ?_)
  have loop : ∀ (f i : Nat), i ≤ n → n + 1 ≤ i + f → ∀ ls : Array Slot, lv_has ls 3 [(2, .int (nI i)), (1, .int (nI (xcnt (fun j => xmu V j) i))), (0, .ref (A 0))] → W p l e (headSpec (xw yX1_used cX1_used 3 (some .int)) ({ frames := 1, cells := 0, slots := 0, locals := 23 })).room s m ([.ref (A 0)] : List Value).toArray below meth c H locs 0 0 (MQ below (xk_Q (fun v => v = some (.int (nI (xcnt (fun j => xmu V j) n)))) D (xm_W A K th n V TV TO AG OP NX TK) (xm_W A K 0 n V TV TO AG OP NX TK)) ([.ref (A 0)] : List Value).toArray s 0 0 (va_A (xm_W A K th n V TV TO AG OP NX TK) s.heap.size)) (F0 m 9 ls []) := by
    intro f
    induction f with
    | zero => intro i h1 h2; exact absurd h2 (by omega)
    | succ f ih =>
      intro i hi hf ls hl
      refine lv_iload_n hx hb dX1_used_9 rfl (lv_at hl 0 rfl) ?_
      refine lv_aload_n hx hb dX1_used_10 rfl (lv_at hl 2 rfl) ?_
      refine va_get (D := D) (ci := 1) (v := .int (nI n)) (C := RX1) (T := TX1) (N := 9) hx hb ht xin_X1 hown hK hP 0 rfl rfl 1 (by decide) (ht _ kfl_RX1_29) (fun _ h9 => h9) rfl dX1_used_11 ?_
      refine lv_icmp_ge (tgt := 31) hx hb dX1_used_14 (by decide) (fun h1 => ?_) (fun h1 => ?_)
      · have hin : i = n := by
          rcases Nat.lt_or_ge i n with q | q
          · exact absurd h1 (nI_ge (b := n) q (by omega))
          · omega
        subst hin
        refine lv_iload_n hx hb dX1_used_31 rfl (lv_at hl 1 rfl) ?_
        exact W.iret (v := nI (xcnt (fun j => xmu V j) i)) hx hb hr (fun t ht hW => ⟨⟨_, rfl, rfl⟩, by rw [ht]; exact hP, hS.F ht⟩) hS.2.2 dX1_used_32
      · have hin : i < n := by
          rcases Nat.lt_or_ge i n with q | q
          · exact q
          · exact absurd (nI_le (a := n) q (by omega)) h1
        refine lv_iload_n hx hb dX1_used_17 rfl (lv_at hl 1 rfl) ?_
        refine lv_aload_n hx hb dX1_used_18 rfl (lv_at hl 2 rfl) ?_
        refine lv_iload_n hx hb dX1_used_19 rfl (lv_at hl 0 rfl) ?_
        refine xr_V (n := 1) (As := [.int (nI i)]) (rest := [.int (nI (xcnt (fun j => xmu V j) i))]) ⟨hx, hb, hml, hown, ht⟩ (m_inUse l D A K 0 n V TV TO AG OP NX TK i (by omega)) (xg_V kml_RX1_60 kim_yX1_inUse ksl_yX1_inUse kin_RX1 kco_yX1_inUse) ⟨rfl, rfl⟩ (by decide +kernel) ⟨Nat.le_of_ble_eq_true rfl, Nat.le_of_ble_eq_true rfl⟩ (xk_preV hP hK rfl rfl) rfl hl.1 rfl (Nat.le_of_ble_eq_true rfl) dX1_used_20 ⟨Nat.le_of_ble_eq_true rfl, Nat.le_of_ble_eq_true rfl⟩ (fun r1 e1 => ?_)
        subst e1
        refine lv_iadd hx hb dX1_used_23 ?_
        refine xa_top (y := nI (xcnt (fun j => xmu V j) (i + 1))) (nI_add _ _) ?_
        refine lv_istore_n (lv' := [(1, .int (nI (xcnt (fun j => xmu V j) (i + 1)))), (2, .int (nI i)), (0, .ref (A 0))]) hx hb dX1_used_24 rfl hl (by decide) rfl (fun ls hl => ?_)
        refine lv_iinc (v := nI (i + 1)) (lv' := [(2, .int (nI (i + 1))), (1, .int (nI (xcnt (fun j => xmu V j) (i + 1)))), (0, .ref (A 0))]) hx hb dX1_used_25 hl (k := 1) rfl (nI_1 i) (by decide) rfl (fun ls hl => ?_)
        refine lv_goto (tgt := 9) hx hb dX1_used_28 (by decide) ?_
        exact ih (i + 1) (by omega) (by omega) ls (lv_sub hl [0, 1, 2] rfl)
  exact loop (n + 1) 0 (by omega) (by omega) ls (lv_sub hl [0, 1, 2] rfl)

set_option maxHeartbeats 4000000 in
set_option maxRecDepth 100000 in
/-- victim -/
theorem m_victim (l : Launch) (D : va_G) (A : Nat → Nat) (K : Nat → ClassId) (th n : Nat) (V TV TO : Nat → Bool) (AG OP NX : Nat → Nat) (TK : Nat) (hn : n ≤ 128) (hOP : ∀ q, q < 6 → OP q < 128) (hAG : ∀ j, AG j ≤ TK) (hTK : TK ≤ 100000) (g : Bool) (sz : Nat) : Met l yX1_victim (xw yX1_victim cX1_victim 7 (some .int)) ({ frames := 1, cells := 0, slots := 0, locals := 23 }) (xk_M [.ref (A 0), .int (xb g)] D (xm_T K) (xm_W A K th n V TV TO AG OP NX TK) sz) (xk_Q (fun v => v = some (.int (xvR (xvic (xmc V TO OP) (xmw g V AG TK) n)))) D (xm_W A K th n V TV TO AG OP NX TK) (xm_W A K 0 n V TV TO AG OP NX TK)) 0 0 (va_A (xm_W A K th n V TV TO AG OP NX TK) sz) := by
  refine Met.ofW (cc := cX1_victim) (maxL := 7) (ret := (some .int)) (by decide) rfl ?_
  intro p e s m args below meth c s₁ B0 hml hv
  obtain ⟨rfl, hsz, hP, hK, hD0⟩ := hv
  have hx := B0.exec
  have hb := B0.bytes
  have hr := B0.returns
  have ht : ∀ w ∈ xT, w.before _ s = true := fun w h => atoms_spec (ws := xw yX1_victim cX1_victim 7 (some .int)) B0.pre w (List.mem_cons_of_mem _ h)
  have hown : s.vm.findClass RX1 = some m.cls := findClass_of_methodNamed B0.named
  have hlocks := B0.notSynchronized
  have hl := lv_entry ([.ref (A 0), .int (xb g)]) (n := 7) (Nat.le_of_ble_eq_true rfl)
  rw [lg_entry_eq]
  generalize (lg_sl ([.ref (A 0), .int (xb g)]) ++ List.replicate (7 - (lg_sl ([.ref (A 0), .int (xb g)])).length) Slot.unset).toArray = ls at hl ⊢
  have hl : lv_has ls 7 [(0, .ref (A 0)), (1, .int (xb g))] := hl
  subst hsz
  have hD := hD0.self (sz := s.heap.size)
  have hA : ∀ q : Nat, s.heap.size ≤ q → va_A (xm_W A K th n V TV TO AG OP NX TK) s.heap.size q := fun q h => Or.inr h
  have hS : va_S (va_A (xm_W A K th n V TV TO AG OP NX TK) s.heap.size) s.heap s.heap [] := va_S.rf
  refine lv_aload_n hx hb dX1_victim_0 rfl (lv_at hl 0 rfl) ?_
  refine lv_iconst (v := 0) hx hb dX1_victim_1 (by decide) ?_
  refine xa_top (y := nI 0) rfl ?_
  refine va_put (D := D) (ci := 1) (v := .int (nI 0)) (ty := .int) (C := RX1) (T := TX1) (N := 9) hx hb ht xin_X1 tyX1 tyX1_ok nmX1 hown hK hP hD hS 0 rfl rfl 0 (by decide) (ht _ kfl_RX1_33) (fun _ h9 => h9) rfl (by decide +kernel) rfl rfl (Nat.le_of_ble_eq_true rfl) dX1_victim_2 (fun H locs hP hD hS => ?_)
  have hP : va_P D xcl (xm_W A K 0 n V TV TO AG OP NX TK) H := hP
  have hD : va_D (va_A (xm_W A K th n V TV TO AG OP NX TK) s.heap.size) (xm_W A K 0 n V TV TO AG OP NX TK) := hD
  refine lv_iconst (v := -1) hx hb dX1_victim_5 (by decide) ?_
  refine lv_istore_n (lv' := [(2, .int (-1)), (0, .ref (A 0)), (1, .int (xb g))]) hx hb dX1_victim_6 rfl hl (by decide) rfl (fun ls hl => ?_)
  refine lv_iconst (v := -1) hx hb dX1_victim_7 (by decide) ?_
  refine lv_istore_n (lv' := [(3, .int (-1)), (2, .int (-1)), (0, .ref (A 0)), (1, .int (xb g))]) hx hb dX1_victim_8 rfl hl (by decide) rfl (fun ls hl => ?_)
  refine lv_iconst (v := 0) hx hb dX1_victim_9 (by decide) ?_
  refine lv_istore (lv' := [(4, .int 0), (3, .int (-1)), (2, .int (-1)), (0, .ref (A 0)), (1, .int (xb g))]) hx hb dX1_victim_10 hl (by decide) rfl (fun ls hl => ?_)
  have loop : ∀ (f i : Nat) (bs bw : Int32), i ≤ n → n + 1 ≤ i + f → xvM (xvic (xmc V TO OP) (xmw g V AG TK) i) bs bw → ∀ ls : Array Slot, lv_has ls 7 [(4, .int (nI i)), (3, .int bw), (2, .int bs), (0, .ref (A 0)), (1, .int (xb g))] → W p l e (headSpec (xw yX1_victim cX1_victim 7 (some .int)) ({ frames := 1, cells := 0, slots := 0, locals := 23 })).room s m ([.ref (A 0), .int (xb g)] : List Value).toArray below meth c H locs 0 0 (MQ below (xk_Q (fun v => v = some (.int (xvR (xvic (xmc V TO OP) (xmw g V AG TK) n)))) D (xm_W A K th n V TV TO AG OP NX TK) (xm_W A K 0 n V TV TO AG OP NX TK)) ([.ref (A 0), .int (xb g)] : List Value).toArray s 0 0 (va_A (xm_W A K th n V TV TO AG OP NX TK) s.heap.size)) (F0 m 12 ls []) := by
    intro f
    induction f with
    | zero => intro i _ _ h1 h2; exact absurd h2 (by omega)
    | succ f ih =>
      intro i bs bw hi hf hc ls hl
      refine lv_iload hx hb dX1_victim_12 (lv_at hl 0 rfl) ?_
      refine lv_aload_n hx hb dX1_victim_14 rfl (lv_at hl 3 rfl) ?_
      refine va_get (D := D) (ci := 1) (v := .int (nI n)) (C := RX1) (T := TX1) (N := 9) hx hb ht xin_X1 hown hK hP 0 rfl rfl 1 (by decide) (ht _ kfl_RX1_29) (fun _ h9 => h9) rfl dX1_victim_15 ?_
      refine lv_icmp_ge (tgt := 108) hx hb dX1_victim_18 (by decide) (fun h1 => ?_) (fun h1 => ?_)
      · have hin : i = n := by
          rcases Nat.lt_or_ge i n with q | q
          · exact absurd h1 (nI_ge (b := n) q (by omega))
          · omega
        subst hin
        refine lv_iload_n hx hb dX1_victim_108 rfl (lv_at hl 2 rfl) ?_
        exact W.iret (v := bs) hx hb hr (fun t ht hW => ⟨⟨_, rfl, by rw [xvM_R hc]⟩, by rw [ht]; exact hP, hS.F ht⟩) hS.2.2 dX1_victim_109
      · have hin : i < n := by
          rcases Nat.lt_or_ge i n with q | q
          · exact q
          · exact absurd (nI_le (a := n) q (by omega)) h1
        have hpc := xmu_le V i
        have hwl : xmw g V AG TK i < 2 ^ 31 := xmw_lt hTK
        refine lv_aload_n hx hb dX1_victim_21 rfl (lv_at hl 3 rfl) ?_
        refine lv_iload hx hb dX1_victim_22 (lv_at hl 0 rfl) ?_
        refine xr_V (n := 1) (As := [.int (nI i)]) (rest := []) ⟨hx, hb, hml, hown, ht⟩ (m_inUse l D A K 0 n V TV TO AG OP NX TK i (by omega)) (xg_V kml_RX1_60 kim_yX1_inUse ksl_yX1_inUse kin_RX1 kco_yX1_inUse) ⟨rfl, rfl⟩ (by decide +kernel) ⟨Nat.le_of_ble_eq_true rfl, Nat.le_of_ble_eq_true rfl⟩ (xk_preV hP hK rfl rfl) rfl hl.1 rfl (Nat.le_of_ble_eq_true rfl) dX1_victim_24 ⟨Nat.le_of_ble_eq_true rfl, Nat.le_of_ble_eq_true rfl⟩ (fun r1 e1 => ?_)
        subst e1
        have tail : ∀ ls : Array Slot, lv_has ls 7 [(5, .int (nI (xmu V i))), (4, .int (nI i)), (3, .int bw), (2, .int bs), (0, .ref (A 0)), (1, .int (xb g))] → W p l e (headSpec (xw yX1_victim cX1_victim 7 (some .int)) ({ frames := 1, cells := 0, slots := 0, locals := 23 })).room s m ([.ref (A 0), .int (xb g)] : List Value).toArray below meth c H locs 0 0 (MQ below (xk_Q (fun v => v = some (.int (xvR (xvic (xmc V TO OP) (xmw g V AG TK) n)))) D (xm_W A K th n V TV TO AG OP NX TK) (xm_W A K 0 n V TV TO AG OP NX TK)) ([.ref (A 0), .int (xb g)] : List Value).toArray s 0 0 (va_A (xm_W A K th n V TV TO AG OP NX TK) s.heap.size)) (F0 m 67 ls [.int (nI (xmw g V AG TK i))]) := by
          intro ls hl
          refine lv_istore (lv' := [(6, .int (nI (xmw g V AG TK i))), (5, .int (nI (xmu V i))), (4, .int (nI i)), (3, .int bw), (2, .int bs), (0, .ref (A 0)), (1, .int (xb g))]) hx hb dX1_victim_67 hl (by decide) rfl (fun ls hl => ?_)
          refine lv_aload_n hx hb dX1_victim_69 rfl (lv_at hl 5 rfl) ?_
          refine lv_iload hx hb dX1_victim_70 (lv_at hl 2 rfl) ?_
          refine xr_V (n := 1) (As := [.int (nI i)]) (rest := []) ⟨hx, hb, hml, hown, ht⟩ (m_isTaken l D A K 0 n V TV TO AG OP NX TK hOP i (by omega)) (xg_V kml_RX1_36 kim_yX1_isTaken ksl_yX1_isTaken kin_RX1 kco_yX1_isTaken) ⟨rfl, rfl⟩ (by decide +kernel) ⟨Nat.le_of_ble_eq_true rfl, Nat.le_of_ble_eq_true rfl⟩ (xk_preV hP hK rfl rfl) rfl hl.1 rfl (Nat.le_of_ble_eq_true rfl) dX1_victim_72 ⟨Nat.le_of_ble_eq_true rfl, Nat.le_of_ble_eq_true rfl⟩ (fun r2 e2 => ?_)
          subst e2
          refine lv_if_ne (tgt := 102) hx hb dX1_victim_75 (by decide) (fun h2 => ?_) (fun h2 => ?_)
          · rw [xb_n0] at h2
            refine lv_iinc (v := nI (i + 1)) (lv' := [(4, .int (nI (i + 1))), (6, .int (nI (xmw g V AG TK i))), (5, .int (nI (xmu V i))), (3, .int bw), (2, .int bs), (0, .ref (A 0)), (1, .int (xb g))]) hx hb dX1_victim_102 hl (k := 2) rfl (nI_1 i) (by decide) rfl (fun ls hl => ?_)
            refine lv_goto (tgt := 12) hx hb dX1_victim_105 (by decide) ?_
            exact ih (i + 1) bs bw (by omega) (by omega) (by rw [xvic_skip (by simp [xmc, h2])]; exact hc) ls (lv_sub hl [0, 3, 4, 5, 6] rfl)
          · rw [xb_0] at h2
            refine lv_iload hx hb dX1_victim_78 (lv_at hl 1 rfl) ?_
            refine lv_if_le (tgt := 102) hx hb dX1_victim_80 (by decide) (fun h3 => ?_) (fun h3 => ?_)
            · have hz : xmu V i = 0 := by
                rcases Nat.eq_zero_or_pos (xmu V i) with q | q
                · exact q
                · exact absurd h3 (nI_nle q (by omega))
              refine lv_iinc (v := nI (i + 1)) (lv' := [(4, .int (nI (i + 1))), (6, .int (nI (xmw g V AG TK i))), (5, .int (nI (xmu V i))), (3, .int bw), (2, .int bs), (0, .ref (A 0)), (1, .int (xb g))]) hx hb dX1_victim_102 hl (k := 2) rfl (nI_1 i) (by decide) rfl (fun ls hl => ?_)
              refine lv_goto (tgt := 12) hx hb dX1_victim_105 (by decide) ?_
              exact ih (i + 1) bs bw (by omega) (by omega) (by rw [xvic_skip (by simp [xmc, hz])]; exact hc) ls (lv_sub hl [0, 3, 4, 5, 6] rfl)
            · have hz : 0 < xmu V i := by
                rcases Nat.eq_zero_or_pos (xmu V i) with q | q
                · exact absurd (by rw [q]; decide) h3
                · exact q
              refine lv_iload hx hb dX1_victim_83 (lv_at hl 1 rfl) ?_
              refine lv_bipush (v := 16) hx hb dX1_victim_85 (by decide) ?_
              refine lv_icmp_ge (tgt := 102) hx hb dX1_victim_87 (by decide) (fun h4 => ?_) (fun h4 => ?_)
              · have hz6 : xmu V i = 16 := by
                  rcases Nat.lt_or_ge (xmu V i) 16 with q | q
                  · exact absurd h4 (nI_ge (b := 16) q (by omega))
                  · omega
                refine lv_iinc (v := nI (i + 1)) (lv' := [(4, .int (nI (i + 1))), (6, .int (nI (xmw g V AG TK i))), (5, .int (nI (xmu V i))), (3, .int bw), (2, .int bs), (0, .ref (A 0)), (1, .int (xb g))]) hx hb dX1_victim_102 hl (k := 2) rfl (nI_1 i) (by decide) rfl (fun ls hl => ?_)
                refine lv_goto (tgt := 12) hx hb dX1_victim_105 (by decide) ?_
                exact ih (i + 1) bs bw (by omega) (by omega) (by rw [xvic_skip (by simp [xmc, hz6])]; exact hc) ls (lv_sub hl [0, 3, 4, 5, 6] rfl)
              · have hz6 : xmu V i < 16 := by
                  rcases Nat.lt_or_ge (xmu V i) 16 with q | q
                  · exact q
                  · exact absurd (nI_le (a := 16) q (by omega)) h4
                have hca : xmc V TO OP i = true := by simp [xmc, h2, hz, hz6]
                refine lv_iload hx hb dX1_victim_90 (lv_at hl 0 rfl) ?_
                refine lv_iload_n hx hb dX1_victim_92 rfl (lv_at hl 3 rfl) ?_
                cases hq : xvic (xmc V TO OP) (xmw g V AG TK) i with
                | none =>
                  rw [hq] at hc
                  obtain ⟨rfl, rfl⟩ := hc
                  refine lv_icmp_le (tgt := 102) hx hb dX1_victim_93 (by decide) (fun h => absurd (Int32.le_trans (nI_pos' (n := xmw g V AG TK i) hwl) h) (by decide)) (fun _ => ?_)
                  refine lv_iload hx hb dX1_victim_96 (lv_at hl 2 rfl) ?_
                  refine lv_istore_n (lv' := [(2, .int (nI i)), (6, .int (nI (xmw g V AG TK i))), (5, .int (nI (xmu V i))), (4, .int (nI i)), (3, .int (-1)), (0, .ref (A 0)), (1, .int (xb g))]) hx hb dX1_victim_98 rfl hl (by decide) rfl (fun ls hl => ?_)
                  refine lv_iload hx hb dX1_victim_99 (lv_at hl 1 rfl) ?_
                  refine lv_istore_n (lv' := [(3, .int (nI (xmw g V AG TK i))), (2, .int (nI i)), (6, .int (nI (xmw g V AG TK i))), (5, .int (nI (xmu V i))), (4, .int (nI i)), (0, .ref (A 0)), (1, .int (xb g))]) hx hb dX1_victim_101 rfl hl (by decide) rfl (fun ls hl => ?_)
                  refine lv_iinc (v := nI (i + 1)) (lv' := [(4, .int (nI (i + 1))), (3, .int (nI (xmw g V AG TK i))), (2, .int (nI i)), (6, .int (nI (xmw g V AG TK i))), (5, .int (nI (xmu V i))), (0, .ref (A 0)), (1, .int (xb g))]) hx hb dX1_victim_102 hl (k := 4) rfl (nI_1 i) (by decide) rfl (fun ls hl => ?_)
                  refine lv_goto (tgt := 12) hx hb dX1_victim_105 (by decide) ?_
                  exact ih (i + 1) (nI i) (nI (xmw g V AG TK i)) (by omega) (by omega) (by rw [xvic_new hca hq]; exact ⟨rfl, rfl, by omega, hwl⟩) ls (lv_sub hl [0, 1, 2, 5, 6] rfl)
                | some q =>
                  rw [hq] at hc
                  obtain ⟨rfl, rfl, hq1, hq2⟩ := hc
                  refine lv_icmp_le (tgt := 102) hx hb dX1_victim_93 (by decide) (fun h6 => ?_) (fun h6 => ?_)
                  · have hle : xmw g V AG TK i ≤ q.2 := (nI_leI hwl hq2).mp h6
                    refine lv_iinc (v := nI (i + 1)) (lv' := [(4, .int (nI (i + 1))), (6, .int (nI (xmw g V AG TK i))), (5, .int (nI (xmu V i))), (3, .int (nI q.2)), (2, .int (nI q.1)), (0, .ref (A 0)), (1, .int (xb g))]) hx hb dX1_victim_102 hl (k := 2) rfl (nI_1 i) (by decide) rfl (fun ls hl => ?_)
                    refine lv_goto (tgt := 12) hx hb dX1_victim_105 (by decide) ?_
                    exact ih (i + 1) (nI q.1) (nI q.2) (by omega) (by omega) (by rw [xvic_le hq hle]; exact ⟨rfl, rfl, hq1, hq2⟩) ls (lv_sub hl [0, 3, 4, 5, 6] rfl)
                  · have hlt : q.2 < xmw g V AG TK i := Nat.lt_of_not_le (fun z => h6 ((nI_leI hwl hq2).mpr z))
                    refine lv_iload hx hb dX1_victim_96 (lv_at hl 2 rfl) ?_
                    refine lv_istore_n (lv' := [(2, .int (nI i)), (6, .int (nI (xmw g V AG TK i))), (5, .int (nI (xmu V i))), (4, .int (nI i)), (3, .int (nI q.2)), (0, .ref (A 0)), (1, .int (xb g))]) hx hb dX1_victim_98 rfl hl (by decide) rfl (fun ls hl => ?_)
                    refine lv_iload hx hb dX1_victim_99 (lv_at hl 1 rfl) ?_
                    refine lv_istore_n (lv' := [(3, .int (nI (xmw g V AG TK i))), (2, .int (nI i)), (6, .int (nI (xmw g V AG TK i))), (5, .int (nI (xmu V i))), (4, .int (nI i)), (0, .ref (A 0)), (1, .int (xb g))]) hx hb dX1_victim_101 rfl hl (by decide) rfl (fun ls hl => ?_)
                    refine lv_iinc (v := nI (i + 1)) (lv' := [(4, .int (nI (i + 1))), (3, .int (nI (xmw g V AG TK i))), (2, .int (nI i)), (6, .int (nI (xmw g V AG TK i))), (5, .int (nI (xmu V i))), (0, .ref (A 0)), (1, .int (xb g))]) hx hb dX1_victim_102 hl (k := 4) rfl (nI_1 i) (by decide) rfl (fun ls hl => ?_)
                    refine lv_goto (tgt := 12) hx hb dX1_victim_105 (by decide) ?_
                    exact ih (i + 1) (nI i) (nI (xmw g V AG TK i)) (by omega) (by omega) (by rw [xvic_gt hca hq hlt]; exact ⟨rfl, rfl, by omega, hwl⟩) ls (lv_sub hl [0, 1, 2, 5, 6] rfl)
        refine lv_istore (lv' := [(5, .int (nI (xmu V i))), (4, .int (nI i)), (3, .int bw), (2, .int bs), (0, .ref (A 0)), (1, .int (xb g))]) hx hb dX1_victim_27 hl (by decide) rfl (fun ls hl => ?_)
        refine lv_iload_n hx hb dX1_victim_29 rfl (lv_at hl 5 rfl) ?_
        refine lv_if_eq (tgt := 62) hx hb dX1_victim_30 (by decide) (fun h7 => ?_) (fun h7 => ?_)
        · rw [xb_0] at h7
          subst h7
          refine lv_bipush (v := 16) hx hb dX1_victim_62 (by decide) ?_
          refine lv_iload hx hb dX1_victim_64 (lv_at hl 0 rfl) ?_
          refine lv_isub hx hb dX1_victim_66 ?_
          refine xa_top (y := nI (xmw false V AG TK i)) ((pk_sub (a := 16) hpc).trans rfl) ?_
          exact tail ls (lv_sub hl [0, 1, 2, 3, 4, 5] rfl)
        · rw [xb_n0] at h7
          subst h7
          refine lv_bipush (v := 16) hx hb dX1_victim_33 (by decide) ?_
          refine lv_iload hx hb dX1_victim_35 (lv_at hl 0 rfl) ?_
          refine lv_isub hx hb dX1_victim_37 ?_
          refine lv_aload_n hx hb dX1_victim_38 rfl (lv_at hl 4 rfl) ?_
          refine va_get (D := D) (ci := 1) (v := .int (nI TK)) (C := RX1) (T := TX1) (N := 9) hx hb ht xin_X1 hown hK hP 0 rfl rfl 8 (by decide) (ht _ kfl_RX1_51) (fun _ h9 => h9) rfl dX1_victim_39 ?_
          refine lv_aload_n hx hb dX1_victim_42 rfl (lv_at hl 4 rfl) ?_
          refine va_get (D := D) (ci := 1) (v := .ref (A 4)) (C := RX1) (T := TX1) (N := 9) hx hb ht xin_X1 hown hK hP 0 rfl rfl 5 (by decide) (ht _ kfl_RX1_19) (fun _ h9 => h9) rfl dX1_victim_43 ?_
          refine lv_iload hx hb dX1_victim_46 (lv_at hl 1 rfl) ?_
          refine xa_ild hx hb hK hP 4 3 rfl rfl (v := nI (AG i)) (show i < 128 by omega) (by decide) rfl dX1_victim_48 ?_
          refine lv_isub hx hb dX1_victim_49 ?_
          refine lv_iconst (v := 1) hx hb dX1_victim_50 (by decide) ?_
          refine lv_iadd hx hb dX1_victim_51 ?_
          refine lv_imul hx hb dX1_victim_52 ?_
          refine lv_iload hx hb dX1_victim_53 (lv_at hl 0 rfl) ?_
          refine lv_bipush (v := 16) hx hb dX1_victim_55 (by decide) ?_
          refine lv_iadd hx hb dX1_victim_57 ?_
          refine lv_idiv hx hb dX1_victim_58 (fun z => nI_ne0 (n := xmu V i + 16) (by omega) (by omega) ((nI_add (xmu V i) 16).symm.trans z)) ?_
          refine xa_top (y := nI (xmw true V AG TK i)) ((xworth hpc (hAG i) hTK).trans rfl) ?_
          refine lv_goto (tgt := 67) hx hb dX1_victim_59 (by decide) ?_
          exact tail ls (lv_sub hl [0, 1, 2, 3, 4, 5] rfl)
  exact loop (n + 1) 0 (-1) (-1) (by omega) (by omega) ⟨rfl, rfl⟩ ls (lv_sub hl [0, 1, 2, 3, 4] rfl)

set_option maxHeartbeats 4000000 in
set_option maxRecDepth 100000 in
/-- checkpoint -/
theorem m_checkpoint (l : Launch) (D : va_G) (A : Nat → Nat) (K : Nat → ClassId) (th n : Nat) (V TV TO : Nat → Bool) (AG OP NX : Nat → Nat) (TK : Nat) (hn : n ≤ 128) (hOP : ∀ q, q < 6 → OP q < 128) (hz : ∀ i, 2048 ≤ i → TV i = V i) (hz2 : ∀ j, 128 ≤ j → TO j = false) (sz : Nat) : Met l yX1_checkpoint (xw yX1_checkpoint cX1_checkpoint 2 (some .int)) ({ frames := 3, cells := 0, slots := 0, locals := 68 }) (xk_M [.ref (A 0)] D (xm_T K) (xm_W A K th n V TV TO AG OP NX TK) sz) (xk_Q (fun v => v = some (.int (nI (xcnt (fun j => (xmfr V V (fun _ => false) OP j).toNat) n)))) D (xm_W A K th n V TV TO AG OP NX TK) (xm_W A K 0 n V V (fun _ => false) AG OP NX TK)) 0 0 (va_A (xm_W A K th n V TV TO AG OP NX TK) sz) := by
  refine Met.ofW (cc := cX1_checkpoint) (maxL := 2) (ret := (some .int)) (by decide) rfl ?_
  intro p e s m args below meth c s₁ B0 hml hv
  obtain ⟨rfl, hsz, hP, hK, hD0⟩ := hv
  have hx := B0.exec
  have hb := B0.bytes
  have hr := B0.returns
  have ht : ∀ w ∈ xT, w.before _ s = true := fun w h => atoms_spec (ws := xw yX1_checkpoint cX1_checkpoint 2 (some .int)) B0.pre w (List.mem_cons_of_mem _ h)
  have hown : s.vm.findClass RX1 = some m.cls := findClass_of_methodNamed B0.named
  have hlocks := B0.notSynchronized
  have hl := lv_entry ([.ref (A 0)]) (n := 2) (Nat.le_of_ble_eq_true rfl)
  rw [lg_entry_eq]
  generalize (lg_sl ([.ref (A 0)]) ++ List.replicate (2 - (lg_sl ([.ref (A 0)])).length) Slot.unset).toArray = ls at hl ⊢
  have hl : lv_has ls 2 [(0, .ref (A 0))] := hl
  subst hsz
  have hD := hD0.self (sz := s.heap.size)
  have hA : ∀ q : Nat, s.heap.size ≤ q → va_A (xm_W A K th n V TV TO AG OP NX TK) s.heap.size q := fun q h => Or.inr h
  have hS : va_S (va_A (xm_W A K th n V TV TO AG OP NX TK) s.heap.size) s.heap s.heap [] := va_S.rf
  have loop2 : ∀ (f i : Nat) (TO' : Nat → Bool) (H : Heap) (locs : List Loc), i ≤ 128 → 129 ≤ i + f → (∀ j, j < i → TO' j = false) → (∀ j, i ≤ j → TO' j = TO j) → va_P D xcl (xm_W A K th n V V TO' AG OP NX TK) H → va_D (va_A (xm_W A K th n V TV TO AG OP NX TK) s.heap.size) (xm_W A K th n V V TO' AG OP NX TK) → va_S (va_A (xm_W A K th n V TV TO AG OP NX TK) s.heap.size) s.heap H locs → ∀ ls : Array Slot, lv_has ls 2 [(1, .int (nI i)), (0, .ref (A 0))] → W p l e (headSpec (xw yX1_checkpoint cX1_checkpoint 2 (some .int)) ({ frames := 3, cells := 0, slots := 0, locals := 68 })).room s m ([.ref (A 0)] : List Value).toArray below meth c H locs 0 0 (MQ below (xk_Q (fun v => v = some (.int (nI (xcnt (fun j => (xmfr V V (fun _ => false) OP j).toNat) n)))) D (xm_W A K th n V TV TO AG OP NX TK) (xm_W A K 0 n V V (fun _ => false) AG OP NX TK)) ([.ref (A 0)] : List Value).toArray s 0 0 (va_A (xm_W A K th n V TV TO AG OP NX TK) s.heap.size)) (F0 m 29 ls []) := by
    intro f
    induction f with
    | zero => intro i TO' H locs h1 h2; exact absurd h2 (by omega)
    | succ f ih =>
      intro i TO' H locs hi hf hlo hhi hP hD hS ls hl
      refine lv_iload_n hx hb dX1_checkpoint_29 rfl (lv_at hl 0 rfl) ?_
      refine lv_sipush (v := 128) hx hb dX1_checkpoint_30 (by decide) ?_
      refine lv_icmp_ge (tgt := 49) hx hb dX1_checkpoint_33 (by decide) (fun h1 => ?_) (fun h1 => ?_)
      · have hin : i = 128 := by
          rcases Nat.lt_or_ge i 128 with q | q
          · exact absurd h1 (nI_ge (b := 128) q (by omega))
          · omega
        subst hin
        have eT : TO' = fun _ => false := by
          funext j
          rcases Nat.lt_or_ge j 128 with q | q
          · exact hlo j q
          · rw [hhi j q]; exact hz2 j q
        subst eT
        refine lv_aload_n hx hb dX1_checkpoint_49 rfl (lv_at hl 1 rfl) ?_
        refine xr_M (n := 0) (As := []) (rest := []) ⟨hx, hb, hml, hown, ht⟩ (m_free l D A K th n V V (fun _ => false) AG OP NX TK hn hOP _) (xg_V kml_RX1_57 kim_yX1_free ksl_yX1_free kin_RX1 kco_yX1_free) ⟨rfl, rfl⟩ (by decide +kernel) ⟨Nat.le_of_ble_eq_true rfl, Nat.le_of_ble_eq_true rfl⟩ hP hK hD hS hA rfl rfl rfl rfl hl.1 rfl (Nat.le_of_ble_eq_true rfl) dX1_checkpoint_50 ⟨Nat.zero_le _, Nat.zero_le _⟩ (fun v9 H locs e9 hP hD hS => ?_)
        subst e9
        exact W.iret (v := _) hx hb hr (fun t ht hW => ⟨⟨_, rfl, rfl⟩, by rw [ht]; exact hP, hS.F ht⟩) hS.2.2 dX1_checkpoint_53
      · have hin : i < 128 := by
          rcases Nat.lt_or_ge i 128 with q | q
          · exact q
          · exact absurd (nI_le (a := 128) q (by omega)) h1
        refine lv_aload_n hx hb dX1_checkpoint_36 rfl (lv_at hl 1 rfl) ?_
        refine va_get (D := D) (ci := 1) (v := .ref (A 3)) (C := RX1) (T := TX1) (N := 9) hx hb ht xin_X1 hown hK hP 0 rfl rfl 4 (by decide) (ht _ kfl_RX1_16) (fun _ h9 => h9) rfl dX1_checkpoint_37 ?_
        refine lv_iload_n hx hb dX1_checkpoint_40 rfl (lv_at hl 0 rfl) ?_
        refine lv_iconst (v := 0) hx hb dX1_checkpoint_41 (by decide) ?_
        refine xa_zst hx hb hK hP hD hS 3 2 rfl rfl hin (by decide) (xu_z TO' i false) dX1_checkpoint_42 (fun H locs hP hD hS => ?_)
        have hP : va_P D xcl (xm_W A K th n V V (va_up TO' i false) AG OP NX TK) H := hP
        have hD : va_D (va_A (xm_W A K th n V TV TO AG OP NX TK) s.heap.size) (xm_W A K th n V V (va_up TO' i false) AG OP NX TK) := hD
        refine lv_iinc (v := nI (i + 1)) (lv' := [(1, .int (nI (i + 1))), (0, .ref (A 0))]) hx hb dX1_checkpoint_43 hl (k := 0) rfl (nI_1 i) (by decide) rfl (fun ls hl => ?_)
        refine lv_goto (tgt := 29) hx hb dX1_checkpoint_46 (by decide) ?_
        refine ih (i + 1) (va_up TO' i false) H locs (by omega) (by omega) ?_ ?_ hP hD hS ls (lv_sub hl [0, 1] rfl)
        · intro j hj
          by_cases e : j = i
          · subst e; exact va_up_self _ _ _
          · rw [va_up_ne _ _ e]; exact hlo j (by omega)
        · intro j hj
          rw [va_up_ne _ _ (by omega)]; exact hhi j (by omega)
  have loop : ∀ (f i : Nat) (TV' : Nat → Bool) (H : Heap) (locs : List Loc), i ≤ 2048 → 2049 ≤ i + f → (∀ j, j < i → TV' j = V j) → (∀ j, i ≤ j → TV' j = TV j) → va_P D xcl (xm_W A K th n V TV' TO AG OP NX TK) H → va_D (va_A (xm_W A K th n V TV TO AG OP NX TK) s.heap.size) (xm_W A K th n V TV' TO AG OP NX TK) → va_S (va_A (xm_W A K th n V TV TO AG OP NX TK) s.heap.size) s.heap H locs → ∀ ls : Array Slot, lv_has ls 2 [(1, .int (nI i)), (0, .ref (A 0))] → W p l e (headSpec (xw yX1_checkpoint cX1_checkpoint 2 (some .int)) ({ frames := 3, cells := 0, slots := 0, locals := 68 })).room s m ([.ref (A 0)] : List Value).toArray below meth c H locs 0 0 (MQ below (xk_Q (fun v => v = some (.int (nI (xcnt (fun j => (xmfr V V (fun _ => false) OP j).toNat) n)))) D (xm_W A K th n V TV TO AG OP NX TK) (xm_W A K 0 n V V (fun _ => false) AG OP NX TK)) ([.ref (A 0)] : List Value).toArray s 0 0 (va_A (xm_W A K th n V TV TO AG OP NX TK) s.heap.size)) (F0 m 2 ls []) := by
    intro f
    induction f with
    | zero => intro i TV' H locs h1 h2; exact absurd h2 (by omega)
    | succ f ih =>
      intro i TV' H locs hi hf hlo hhi hP hD hS ls hl
      refine lv_iload_n hx hb dX1_checkpoint_2 rfl (lv_at hl 0 rfl) ?_
      refine lv_sipush (v := 2048) hx hb dX1_checkpoint_3 (by decide) ?_
      refine lv_icmp_ge (tgt := 27) hx hb dX1_checkpoint_6 (by decide) (fun h1 => ?_) (fun h1 => ?_)
      · have hin : i = 2048 := by
          rcases Nat.lt_or_ge i 2048 with q | q
          · exact absurd h1 (nI_ge (b := 2048) q (by omega))
          · omega
        subst hin
        have eT : TV' = V := by
          funext j
          rcases Nat.lt_or_ge j 2048 with q | q
          · exact hlo j q
          · rw [hhi j q]; exact hz j q
        subst eT
        refine lv_iconst (v := 0) hx hb dX1_checkpoint_27 (by decide) ?_
        refine lv_istore_n (lv' := [(1, .int 0), (0, .ref (A 0))]) hx hb dX1_checkpoint_28 rfl hl (by decide) rfl (fun ls hl => ?_)
        exact loop2 129 0 TO H locs (by omega) (by omega) (fun j hj => absurd hj (by omega)) (fun j _ => rfl) hP hD hS ls (lv_sub hl [0, 1] rfl)
      · have hin : i < 2048 := by
          rcases Nat.lt_or_ge i 2048 with q | q
          · exact q
          · exact absurd (nI_le (a := 2048) q (by omega)) h1
        refine lv_aload_n hx hb dX1_checkpoint_9 rfl (lv_at hl 1 rfl) ?_
        refine va_get (D := D) (ci := 1) (v := .ref (A 2)) (C := RX1) (T := TX1) (N := 9) hx hb ht xin_X1 hown hK hP 0 rfl rfl 3 (by decide) (ht _ kfl_RX1_13) (fun _ h9 => h9) rfl dX1_checkpoint_10 ?_
        refine lv_iload_n hx hb dX1_checkpoint_13 rfl (lv_at hl 0 rfl) ?_
        refine lv_aload_n hx hb dX1_checkpoint_14 rfl (lv_at hl 1 rfl) ?_
        refine va_get (D := D) (ci := 1) (v := .ref (A 1)) (C := RX1) (T := TX1) (N := 9) hx hb ht xin_X1 hown hK hP 0 rfl rfl 2 (by decide) (ht _ kfl_RX1_7) (fun _ h9 => h9) rfl dX1_checkpoint_15 ?_
        refine lv_iload_n hx hb dX1_checkpoint_18 rfl (lv_at hl 0 rfl) ?_
        refine xa_zld hx hb hK hP 1 0 rfl rfl (v := xb (V i)) hin (by decide) rfl dX1_checkpoint_19 ?_
        refine xa_zst hx hb hK hP hD hS 2 1 rfl rfl hin (by decide) (xu_z TV' i (V i)) dX1_checkpoint_20 (fun H locs hP hD hS => ?_)
        have hP : va_P D xcl (xm_W A K th n V (va_up TV' i (V i)) TO AG OP NX TK) H := hP
        have hD : va_D (va_A (xm_W A K th n V TV TO AG OP NX TK) s.heap.size) (xm_W A K th n V (va_up TV' i (V i)) TO AG OP NX TK) := hD
        refine lv_iinc (v := nI (i + 1)) (lv' := [(1, .int (nI (i + 1))), (0, .ref (A 0))]) hx hb dX1_checkpoint_21 hl (k := 0) rfl (nI_1 i) (by decide) rfl (fun ls hl => ?_)
        refine lv_goto (tgt := 2) hx hb dX1_checkpoint_24 (by decide) ?_
        refine ih (i + 1) (va_up TV' i (V i)) H locs (by omega) (by omega) ?_ ?_ hP hD hS ls (lv_sub hl [0, 1] rfl)
        · intro j hj
          by_cases e : j = i
          · subst e; exact va_up_self _ _ _
          · rw [va_up_ne _ _ e]; exact hlo j (by omega)
        · intro j hj
          rw [va_up_ne _ _ (by omega)]; exact hhi j (by omega)
  refine lv_iconst (v := 0) hx hb dX1_checkpoint_0 (by decide) ?_
  refine lv_istore_n (lv' := [(1, .int 0), (0, .ref (A 0))]) hx hb dX1_checkpoint_1 rfl hl (by decide) rfl (fun ls hl => ?_)
  exact loop 2049 0 TV s.heap [] (by omega) (by omega) (fun j hj => absurd hj (by omega)) (fun j _ => rfl) hP hD hS ls (lv_sub hl [0, 1] rfl)
