def xml (V TV TO : Nat → Bool) (AG OP : Nat → Nat) (j : Nat) : Nat → Int32
  | 0 => nI (xhc (fun k => V (16 * j + k)) 16)
  | 1 => nI (xhc (fun k => TV (16 * j + k)) 16)
  | 2 => nI (AG j)
  | _ => xb (xtk TO OP j 6)
set_option maxHeartbeats 4000000 in
set_option maxRecDepth 100000 in
/-- look: no such segment or what -/
theorem m_look_bad (l : Launch) (D : va_G) (A : Nat → Nat) (K : Nat → ClassId) (th n : Nat) (V TV TO : Nat → Bool) (AG OP NX : Nat → Nat) (TK : Nat) (hn : n ≤ 128) (x y : Int32) (hbad : ¬ ((∃ j : Nat, j < n ∧ x = nI j) ∧ ∃ v : Nat, v < 4 ∧ y = nI v)) (sz : Nat) : Met l yX1_look (xw yX1_look cX1_look 5 (some .int)) ({ frames := 1, cells := 0, slots := 0, locals := 23 }) (xk_M [.ref (A 0), .int x, .int y] D (xm_T K) (xm_W A K th n V TV TO AG OP NX TK) sz) (xk_Q (fun v => ∃ r : Int32, v = some (.int r)) D (xm_W A K th n V TV TO AG OP NX TK) (xm_W A K 1 n V TV TO AG OP NX TK)) 0 0 (va_A (xm_W A K th n V TV TO AG OP NX TK) sz) := by
  refine Met.ofW (cc := cX1_look) (maxL := 5) (ret := (some .int)) (by decide) rfl ?_
  intro p e s m args below meth c s₁ B0 hml hv
  obtain ⟨rfl, hsz, hP, hK, hD0⟩ := hv
  have hx := B0.exec
  have hb := B0.bytes
  have hr := B0.returns
  have ht : ∀ w ∈ xT, w.before _ s = true := fun w h => atoms_spec (ws := xw yX1_look cX1_look 5 (some .int)) B0.pre w (List.mem_cons_of_mem _ h)
  have hown : s.vm.findClass RX1 = some m.cls := findClass_of_methodNamed B0.named
  have hlocks := B0.notSynchronized
  have hl := lv_entry ([.ref (A 0), .int x, .int y]) (n := 5) (Nat.le_of_ble_eq_true rfl)
  rw [lg_entry_eq]
  generalize (lg_sl ([.ref (A 0), .int x, .int y]) ++ List.replicate (5 - (lg_sl ([.ref (A 0), .int x, .int y])).length) Slot.unset).toArray = ls at hl ⊢
  have hl : lv_has ls 5 [(0, .ref (A 0)), (1, .int x), (2, .int y)] := hl
  subst hsz
  have hD := hD0.self (sz := s.heap.size)
  have hA : ∀ q : Nat, s.heap.size ≤ q → va_A (xm_W A K th n V TV TO AG OP NX TK) s.heap.size q := fun q h => Or.inr h
  have hS : va_S (va_A (xm_W A K th n V TV TO AG OP NX TK) s.heap.size) s.heap s.heap [] := va_S.rf
  have tail : ∀ ls : Array Slot, lv_has ls 5 [(0, .ref (A 0)), (1, .int x), (2, .int y)] → W p l e (headSpec (xw yX1_look cX1_look 5 (some .int)) ({ frames := 1, cells := 0, slots := 0, locals := 23 })).room s m ([.ref (A 0), .int x, .int y] : List Value).toArray below meth c s.heap [] 0 0 (MQ below (xk_Q (fun v => ∃ r : Int32, v = some (.int r)) D (xm_W A K th n V TV TO AG OP NX TK) (xm_W A K 1 n V TV TO AG OP NX TK)) ([.ref (A 0), .int x, .int y] : List Value).toArray s 0 0 (va_A (xm_W A K th n V TV TO AG OP NX TK) s.heap.size)) (F0 m 27 ls [.int (xb true), .ref (A 0)]) := by
    intro ls hl
    refine lv_iconst (v := 0) hx hb dX1_look_27 (by decide) ?_
    refine xr_M (n := 2) (As := [.int (xb true), .int (xb false)]) (rest := []) ⟨hx, hb, hml, hown, ht⟩ (m_throwing l D A K th n V TV TO AG OP NX TK true false _) (xg_V kml_RX1_47 kim_yX1_throwing ksl_yX1_throwing kin_RX1 kco_yX1_throwing) ⟨rfl, rfl⟩ (by decide +kernel) ⟨Nat.le_of_ble_eq_true rfl, Nat.le_of_ble_eq_true rfl⟩ hP hK hD hS hA rfl rfl rfl rfl hl.1 rfl (Nat.le_of_ble_eq_true rfl) dX1_look_28 ⟨Nat.zero_le _, Nat.zero_le _⟩ (fun v9 H locs e9 hP hD hS => ?_)
    subst e9
    refine lv_if_eq (tgt := 36) hx hb dX1_look_31 (by decide) (fun h => by first | exact absurd h (by decide) | exact absurd (by decide) h) (fun _ => ?_)
    refine lv_iconst (v := 0) hx hb dX1_look_34 (by decide) ?_
    exact W.iret (v := 0) hx hb hr (fun t ht hW => ⟨⟨_, rfl, ⟨_, rfl⟩⟩, by rw [ht]; exact hP, hS.F ht⟩) hS.2.2 dX1_look_35
  refine lv_aload_n hx hb dX1_look_0 rfl (lv_at hl 0 rfl) ?_
  refine lv_iload_n hx hb dX1_look_1 rfl (lv_at hl 1 rfl) ?_
  refine lv_if_lt (tgt := 22) hx hb dX1_look_2 (by decide) (fun h1 => ?_) (fun h1 => ?_)
  · refine lv_iconst (v := 1) hx hb dX1_look_22 (by decide) ?_
    refine lv_goto (tgt := 27) hx hb dX1_look_23 (by decide) ?_
    exact tail ls (lv_sub hl [0, 1, 2] rfl)
  · refine lv_iload_n hx hb dX1_look_5 rfl (lv_at hl 1 rfl) ?_
    refine lv_aload_n hx hb dX1_look_6 rfl (lv_at hl 0 rfl) ?_
    refine va_get (D := D) (ci := 1) (v := .int (nI n)) (C := RX1) (T := TX1) (N := 9) hx hb ht xin_X1 hown hK hP 0 rfl rfl 1 (by decide) (ht _ kfl_RX1_29) (fun _ h9 => h9) rfl dX1_look_7 ?_
    refine lv_icmp_ge (tgt := 22) hx hb dX1_look_10 (by decide) (fun h2 => ?_) (fun h2 => ?_)
    · refine lv_iconst (v := 1) hx hb dX1_look_22 (by decide) ?_
      refine lv_goto (tgt := 27) hx hb dX1_look_23 (by decide) ?_
      exact tail ls (lv_sub hl [0, 1, 2] rfl)
    · refine lv_iload_n hx hb dX1_look_13 rfl (lv_at hl 2 rfl) ?_
      refine lv_if_lt (tgt := 22) hx hb dX1_look_14 (by decide) (fun h3 => ?_) (fun h3 => ?_)
      · refine lv_iconst (v := 1) hx hb dX1_look_22 (by decide) ?_
        refine lv_goto (tgt := 27) hx hb dX1_look_23 (by decide) ?_
        exact tail ls (lv_sub hl [0, 1, 2] rfl)
      · refine lv_iload_n hx hb dX1_look_17 rfl (lv_at hl 2 rfl) ?_
        refine lv_iconst (v := 3) hx hb dX1_look_18 (by decide) ?_
        refine lv_icmp_le (tgt := 26) hx hb dX1_look_19 (by decide) (fun h4 => ?_) (fun h4 => ?_)
        · exact absurd ⟨by
            rcases pk_ix x (n := n) (by omega) with q | q | q
            · exact absurd q h1
            · exact absurd q h2
            · exact q, by
            rcases pk_ix y (n := 4) (by decide) with q | q | q
            · exact absurd q h3
            · exact absurd (Int32.le_trans q h4) (by decide)
            · exact q⟩ hbad
        · refine lv_iconst (v := 1) hx hb dX1_look_22 (by decide) ?_
          refine lv_goto (tgt := 27) hx hb dX1_look_23 (by decide) ?_
          exact tail ls (lv_sub hl [0, 1, 2] rfl)

set_option maxHeartbeats 4000000 in
set_option maxRecDepth 100000 in
/-- look -/
theorem m_look_ok (l : Launch) (D : va_G) (A : Nat → Nat) (K : Nat → ClassId) (th n : Nat) (V TV TO : Nat → Bool) (AG OP NX : Nat → Nat) (TK : Nat) (hn : n ≤ 128) (hOP : ∀ q, q < 6 → OP q < 128) (j v0 : Nat) (hj : j < n) (hv : v0 < 4) (sz : Nat) : Met l yX1_look (xw yX1_look cX1_look 5 (some .int)) ({ frames := 1, cells := 0, slots := 0, locals := 23 }) (xk_M [.ref (A 0), .int (nI j), .int (nI v0)] D (xm_T K) (xm_W A K th n V TV TO AG OP NX TK) sz) (xk_Q (fun v => v = some (.int (xml V TV TO AG OP j v0))) D (xm_W A K th n V TV TO AG OP NX TK) (xm_W A K 0 n V TV TO AG OP NX TK)) 0 0 (va_A (xm_W A K th n V TV TO AG OP NX TK) sz) := by
  refine Met.ofW (cc := cX1_look) (maxL := 5) (ret := (some .int)) (by decide) rfl ?_
  intro p e s m args below meth c s₁ B0 hml hv
  obtain ⟨rfl, hsz, hP, hK, hD0⟩ := hv
  have hx := B0.exec
  have hb := B0.bytes
  have hr := B0.returns
  have ht : ∀ w ∈ xT, w.before _ s = true := fun w h => atoms_spec (ws := xw yX1_look cX1_look 5 (some .int)) B0.pre w (List.mem_cons_of_mem _ h)
  have hown : s.vm.findClass RX1 = some m.cls := findClass_of_methodNamed B0.named
  have hlocks := B0.notSynchronized
  have hl := lv_entry ([.ref (A 0), .int (nI j), .int (nI v0)]) (n := 5) (Nat.le_of_ble_eq_true rfl)
  rw [lg_entry_eq]
  generalize (lg_sl ([.ref (A 0), .int (nI j), .int (nI v0)]) ++ List.replicate (5 - (lg_sl ([.ref (A 0), .int (nI j), .int (nI v0)])).length) Slot.unset).toArray = ls at hl ⊢
  have hl : lv_has ls 5 [(0, .ref (A 0)), (1, .int (nI j)), (2, .int (nI v0))] := hl
  subst hsz
  have hD := hD0.self (sz := s.heap.size)
  have hA : ∀ q : Nat, s.heap.size ≤ q → va_A (xm_W A K th n V TV TO AG OP NX TK) s.heap.size q := fun q h => Or.inr h
  have hS : va_S (va_A (xm_W A K th n V TV TO AG OP NX TK) s.heap.size) s.heap s.heap [] := va_S.rf
  refine lv_aload_n hx hb dX1_look_0 rfl (lv_at hl 0 rfl) ?_
  refine lv_iload_n hx hb dX1_look_1 rfl (lv_at hl 1 rfl) ?_
  refine lv_if_lt (tgt := 22) hx hb dX1_look_2 (by decide) (fun h => absurd h (nI_pos (by omega))) (fun _ => ?_)
  refine lv_iload_n hx hb dX1_look_5 rfl (lv_at hl 1 rfl) ?_
  refine lv_aload_n hx hb dX1_look_6 rfl (lv_at hl 0 rfl) ?_
  refine va_get (D := D) (ci := 1) (v := .int (nI n)) (C := RX1) (T := TX1) (N := 9) hx hb ht xin_X1 hown hK hP 0 rfl rfl 1 (by decide) (ht _ kfl_RX1_29) (fun _ h9 => h9) rfl dX1_look_7 ?_
  refine lv_icmp_ge (tgt := 22) hx hb dX1_look_10 (by decide) (fun h => absurd h (nI_ge hj (by omega))) (fun _ => ?_)
  refine lv_iload_n hx hb dX1_look_13 rfl (lv_at hl 2 rfl) ?_
  refine lv_if_lt (tgt := 22) hx hb dX1_look_14 (by decide) (fun h => absurd h (nI_pos (by omega))) (fun _ => ?_)
  refine lv_iload_n hx hb dX1_look_17 rfl (lv_at hl 2 rfl) ?_
  refine lv_iconst (v := 3) hx hb dX1_look_18 (by decide) ?_
  refine lv_icmp_le (tgt := 26) hx hb dX1_look_19 (by decide) (fun _ => ?_) (fun h => absurd (nI_le (b := 3) (by omega) (by decide)) h)
  refine lv_iconst (v := 0) hx hb dX1_look_26 (by decide) ?_
  refine xa_top (y := xb false) rfl ?_
  refine lv_iconst (v := 0) hx hb dX1_look_27 (by decide) ?_
  refine xr_M (n := 2) (As := [.int (xb false), .int (xb false)]) (rest := []) ⟨hx, hb, hml, hown, ht⟩ (m_throwing l D A K th n V TV TO AG OP NX TK false false _) (xg_V kml_RX1_47 kim_yX1_throwing ksl_yX1_throwing kin_RX1 kco_yX1_throwing) ⟨rfl, rfl⟩ (by decide +kernel) ⟨Nat.le_of_ble_eq_true rfl, Nat.le_of_ble_eq_true rfl⟩ hP hK hD hS hA rfl rfl rfl rfl hl.1 rfl (Nat.le_of_ble_eq_true rfl) dX1_look_28 ⟨Nat.zero_le _, Nat.zero_le _⟩ (fun v9 H locs e9 hP hD hS => ?_)
  subst e9
  refine lv_if_eq (tgt := 36) hx hb dX1_look_31 (by decide) (fun _ => ?_) (fun h => by first | exact absurd h (by decide) | exact absurd (by decide) h)
  rcases (show v0 = 0 ∨ v0 = 1 ∨ v0 = 2 ∨ v0 = 3 by omega) with rfl | rfl | rfl | rfl
  · refine lv_iload_n hx hb dX1_look_36 rfl (lv_at hl 2 rfl) ?_
    refine lv_iconst (v := 2) hx hb dX1_look_37 (by decide) ?_
    refine lv_icmp_ne (tgt := 48) hx hb dX1_look_38 (by decide) (fun _ => ?_) (fun h => by first | exact absurd h (by decide) | exact absurd (by decide) h)
    refine lv_iload_n hx hb dX1_look_48 rfl (lv_at hl 2 rfl) ?_
    refine lv_iconst (v := 3) hx hb dX1_look_49 (by decide) ?_
    refine lv_icmp_ne (tgt := 67) hx hb dX1_look_50 (by decide) (fun _ => ?_) (fun h => by first | exact absurd h (by decide) | exact absurd (by decide) h)
    have loop : ∀ (f i : Nat), i ≤ 16 → 17 ≤ i + f → ∀ ls : Array Slot, lv_has ls 5 [(4, .int (xdn i)), (3, .int (nI (xhc (fun k => V (16 * j + k)) i))), (0, .ref (A 0)), (1, .int (nI j)), (2, .int (nI 0))] → W p l e (headSpec (xw yX1_look cX1_look 5 (some .int)) ({ frames := 1, cells := 0, slots := 0, locals := 23 })).room s m ([.ref (A 0), .int (nI j), .int (nI 0)] : List Value).toArray below meth c H locs 0 0 (MQ below (xk_Q (fun v => v = some (.int (xml V TV TO AG OP j 0))) D (xm_W A K th n V TV TO AG OP NX TK) (xm_W A K 0 n V TV TO AG OP NX TK)) ([.ref (A 0), .int (nI j), .int (nI 0)] : List Value).toArray s 0 0 (va_A (xm_W A K th n V TV TO AG OP NX TK) s.heap.size)) (F0 m 73 ls []) := by
      intro f
      induction f with
      | zero => intro i h1 h2; exact absurd h2 (by omega)
      | succ f ih =>
        intro i hi hf ls hl
        refine lv_iload hx hb dX1_look_73 (lv_at hl 0 rfl) ?_
        refine lv_if_lt (tgt := 131) hx hb dX1_look_75 (by decide) (fun h1 => ?_) (fun h1 => ?_)
        · have hin : i = 16 := by
            rcases Nat.lt_or_ge i 16 with q | q
            · exact absurd h1 (xdn_n i q)
            · omega
          subst hin
          refine lv_iload_n hx hb dX1_look_131 rfl (lv_at hl 1 rfl) ?_
          exact W.iret (v := nI (xhc (fun k => V (16 * j + k)) 16)) hx hb hr (fun t ht hW => ⟨⟨_, rfl, rfl⟩, by rw [ht]; exact hP, hS.F ht⟩) hS.2.2 dX1_look_132
        · have hin : i < 16 := by
            rcases Nat.lt_or_ge i 16 with q | q
            · exact q
            · exact absurd (by rw [show i = 16 by omega]; decide) h1
          refine lv_iconst (v := 2) hx hb dX1_look_78 (by decide) ?_
          refine lv_iload_n hx hb dX1_look_79 rfl (lv_at hl 1 rfl) ?_
          refine lv_imul hx hb dX1_look_80 ?_
          refine lv_iload_n hx hb dX1_look_81 rfl (lv_at hl 4 rfl) ?_
          refine lv_if_ne (tgt := 103) hx hb dX1_look_82 (by decide) (fun h => by first | exact absurd h (by decide) | exact absurd (by decide) h) (fun _ => ?_)
          refine lv_aload_n hx hb dX1_look_85 rfl (lv_at hl 2 rfl) ?_
          refine va_get (D := D) (ci := 1) (v := .ref (A 1)) (C := RX1) (T := TX1) (N := 9) hx hb ht xin_X1 hown hK hP 0 rfl rfl 2 (by decide) (ht _ kfl_RX1_7) (fun _ h9 => h9) rfl dX1_look_86 ?_
          refine lv_bipush (v := 16) hx hb dX1_look_89 (by decide) ?_
          refine lv_iload_n hx hb dX1_look_91 rfl (lv_at hl 3 rfl) ?_
          refine lv_imul hx hb dX1_look_92 ?_
          refine lv_iload hx hb dX1_look_93 (lv_at hl 0 rfl) ?_
          refine lv_iadd hx hb dX1_look_95 ?_
          refine xa_top (y := nI (16 * j + (15 - i))) (by rw [xdn_p i hin, xix]) ?_
          refine xa_zld hx hb hK hP 1 0 rfl rfl (v := xb (V (16 * j + (15 - i)))) (show 16 * j + (15 - i) < 2048 by omega) (by decide) rfl dX1_look_96 ?_
          refine lv_if_eq (tgt := 122) hx hb dX1_look_97 (by decide) (fun h2 => ?_) (fun h2 => ?_)
          · rw [xb_0] at h2
            refine lv_iconst (v := 0) hx hb dX1_look_122 (by decide) ?_
            refine lv_iadd hx hb dX1_look_123 ?_
            refine xa_top (y := nI (xhc (fun k => V (16 * j + k)) (i + 1))) (by rw [xhc, h2, show (2 : Int32) = nI 2 from rfl, pk_mul]; exact nI_add _ 0) ?_
            refine lv_istore_n (lv' := [(3, .int (nI (xhc (fun k => V (16 * j + k)) (i + 1)))), (4, .int (xdn i)), (0, .ref (A 0)), (1, .int (nI j)), (2, .int (nI 0))]) hx hb dX1_look_124 rfl hl (by decide) rfl (fun ls hl => ?_)
            refine lv_iinc (v := xdn (i + 1)) (lv' := [(4, .int (xdn (i + 1))), (3, .int (nI (xhc (fun k => V (16 * j + k)) (i + 1)))), (0, .ref (A 0)), (1, .int (nI j)), (2, .int (nI 0))]) hx hb dX1_look_125 hl (k := 1) rfl (xdn_s i hin) (by decide) rfl (fun ls hl => ?_)
            refine lv_goto (tgt := 73) hx hb dX1_look_128 (by decide) ?_
            exact ih (i + 1) (by omega) (by omega) ls (lv_sub hl [0, 1, 2, 3, 4] rfl)
          · rw [xb_n0] at h2
            refine lv_goto (tgt := 118) hx hb dX1_look_100 (by decide) ?_
            refine lv_iconst (v := 1) hx hb dX1_look_118 (by decide) ?_
            refine lv_goto (tgt := 123) hx hb dX1_look_119 (by decide) ?_
            refine lv_iadd hx hb dX1_look_123 ?_
            refine xa_top (y := nI (xhc (fun k => V (16 * j + k)) (i + 1))) (by rw [xhc, h2, show (2 : Int32) = nI 2 from rfl, pk_mul]; exact nI_add _ 1) ?_
            refine lv_istore_n (lv' := [(3, .int (nI (xhc (fun k => V (16 * j + k)) (i + 1)))), (4, .int (xdn i)), (0, .ref (A 0)), (1, .int (nI j)), (2, .int (nI 0))]) hx hb dX1_look_124 rfl hl (by decide) rfl (fun ls hl => ?_)
            refine lv_iinc (v := xdn (i + 1)) (lv' := [(4, .int (xdn (i + 1))), (3, .int (nI (xhc (fun k => V (16 * j + k)) (i + 1)))), (0, .ref (A 0)), (1, .int (nI j)), (2, .int (nI 0))]) hx hb dX1_look_125 hl (k := 1) rfl (xdn_s i hin) (by decide) rfl (fun ls hl => ?_)
            refine lv_goto (tgt := 73) hx hb dX1_look_128 (by decide) ?_
            exact ih (i + 1) (by omega) (by omega) ls (lv_sub hl [0, 1, 2, 3, 4] rfl)
    refine lv_iconst (v := 0) hx hb dX1_look_67 (by decide) ?_
    refine lv_istore_n (lv' := [(3, .int 0), (0, .ref (A 0)), (1, .int (nI j)), (2, .int (nI 0))]) hx hb dX1_look_68 rfl hl (by decide) rfl (fun ls hl => ?_)
    refine lv_bipush (v := 15) hx hb dX1_look_69 (by decide) ?_
    refine lv_istore (lv' := [(4, .int 15), (3, .int 0), (0, .ref (A 0)), (1, .int (nI j)), (2, .int (nI 0))]) hx hb dX1_look_71 hl (by decide) rfl (fun ls hl => ?_)
    exact loop 17 0 (by omega) (by omega) ls (lv_sub hl [0, 1, 2, 3, 4] rfl)
  · refine lv_iload_n hx hb dX1_look_36 rfl (lv_at hl 2 rfl) ?_
    refine lv_iconst (v := 2) hx hb dX1_look_37 (by decide) ?_
    refine lv_icmp_ne (tgt := 48) hx hb dX1_look_38 (by decide) (fun _ => ?_) (fun h => by first | exact absurd h (by decide) | exact absurd (by decide) h)
    refine lv_iload_n hx hb dX1_look_48 rfl (lv_at hl 2 rfl) ?_
    refine lv_iconst (v := 3) hx hb dX1_look_49 (by decide) ?_
    refine lv_icmp_ne (tgt := 67) hx hb dX1_look_50 (by decide) (fun _ => ?_) (fun h => by first | exact absurd h (by decide) | exact absurd (by decide) h)
    have loop : ∀ (f i : Nat), i ≤ 16 → 17 ≤ i + f → ∀ ls : Array Slot, lv_has ls 5 [(4, .int (xdn i)), (3, .int (nI (xhc (fun k => TV (16 * j + k)) i))), (0, .ref (A 0)), (1, .int (nI j)), (2, .int (nI 1))] → W p l e (headSpec (xw yX1_look cX1_look 5 (some .int)) ({ frames := 1, cells := 0, slots := 0, locals := 23 })).room s m ([.ref (A 0), .int (nI j), .int (nI 1)] : List Value).toArray below meth c H locs 0 0 (MQ below (xk_Q (fun v => v = some (.int (xml V TV TO AG OP j 1))) D (xm_W A K th n V TV TO AG OP NX TK) (xm_W A K 0 n V TV TO AG OP NX TK)) ([.ref (A 0), .int (nI j), .int (nI 1)] : List Value).toArray s 0 0 (va_A (xm_W A K th n V TV TO AG OP NX TK) s.heap.size)) (F0 m 73 ls []) := by
      intro f
      induction f with
      | zero => intro i h1 h2; exact absurd h2 (by omega)
      | succ f ih =>
        intro i hi hf ls hl
        refine lv_iload hx hb dX1_look_73 (lv_at hl 0 rfl) ?_
        refine lv_if_lt (tgt := 131) hx hb dX1_look_75 (by decide) (fun h1 => ?_) (fun h1 => ?_)
        · have hin : i = 16 := by
            rcases Nat.lt_or_ge i 16 with q | q
            · exact absurd h1 (xdn_n i q)
            · omega
          subst hin
          refine lv_iload_n hx hb dX1_look_131 rfl (lv_at hl 1 rfl) ?_
          exact W.iret (v := nI (xhc (fun k => TV (16 * j + k)) 16)) hx hb hr (fun t ht hW => ⟨⟨_, rfl, rfl⟩, by rw [ht]; exact hP, hS.F ht⟩) hS.2.2 dX1_look_132
        · have hin : i < 16 := by
            rcases Nat.lt_or_ge i 16 with q | q
            · exact q
            · exact absurd (by rw [show i = 16 by omega]; decide) h1
          refine lv_iconst (v := 2) hx hb dX1_look_78 (by decide) ?_
          refine lv_iload_n hx hb dX1_look_79 rfl (lv_at hl 1 rfl) ?_
          refine lv_imul hx hb dX1_look_80 ?_
          refine lv_iload_n hx hb dX1_look_81 rfl (lv_at hl 4 rfl) ?_
          refine lv_if_ne (tgt := 103) hx hb dX1_look_82 (by decide) (fun _ => ?_) (fun h => by first | exact absurd h (by decide) | exact absurd (by decide) h)
          refine lv_aload_n hx hb dX1_look_103 rfl (lv_at hl 2 rfl) ?_
          refine va_get (D := D) (ci := 1) (v := .ref (A 2)) (C := RX1) (T := TX1) (N := 9) hx hb ht xin_X1 hown hK hP 0 rfl rfl 3 (by decide) (ht _ kfl_RX1_13) (fun _ h9 => h9) rfl dX1_look_104 ?_
          refine lv_bipush (v := 16) hx hb dX1_look_107 (by decide) ?_
          refine lv_iload_n hx hb dX1_look_109 rfl (lv_at hl 3 rfl) ?_
          refine lv_imul hx hb dX1_look_110 ?_
          refine lv_iload hx hb dX1_look_111 (lv_at hl 0 rfl) ?_
          refine lv_iadd hx hb dX1_look_113 ?_
          refine xa_top (y := nI (16 * j + (15 - i))) (by rw [xdn_p i hin, xix]) ?_
          refine xa_zld hx hb hK hP 2 1 rfl rfl (v := xb (TV (16 * j + (15 - i)))) (show 16 * j + (15 - i) < 2048 by omega) (by decide) rfl dX1_look_114 ?_
          refine lv_if_eq (tgt := 122) hx hb dX1_look_115 (by decide) (fun h2 => ?_) (fun h2 => ?_)
          · rw [xb_0] at h2
            refine lv_iconst (v := 0) hx hb dX1_look_122 (by decide) ?_
            refine lv_iadd hx hb dX1_look_123 ?_
            refine xa_top (y := nI (xhc (fun k => TV (16 * j + k)) (i + 1))) (by rw [xhc, h2, show (2 : Int32) = nI 2 from rfl, pk_mul]; exact nI_add _ 0) ?_
            refine lv_istore_n (lv' := [(3, .int (nI (xhc (fun k => TV (16 * j + k)) (i + 1)))), (4, .int (xdn i)), (0, .ref (A 0)), (1, .int (nI j)), (2, .int (nI 1))]) hx hb dX1_look_124 rfl hl (by decide) rfl (fun ls hl => ?_)
            refine lv_iinc (v := xdn (i + 1)) (lv' := [(4, .int (xdn (i + 1))), (3, .int (nI (xhc (fun k => TV (16 * j + k)) (i + 1)))), (0, .ref (A 0)), (1, .int (nI j)), (2, .int (nI 1))]) hx hb dX1_look_125 hl (k := 1) rfl (xdn_s i hin) (by decide) rfl (fun ls hl => ?_)
            refine lv_goto (tgt := 73) hx hb dX1_look_128 (by decide) ?_
            exact ih (i + 1) (by omega) (by omega) ls (lv_sub hl [0, 1, 2, 3, 4] rfl)
          · rw [xb_n0] at h2
            refine lv_iconst (v := 1) hx hb dX1_look_118 (by decide) ?_
            refine lv_goto (tgt := 123) hx hb dX1_look_119 (by decide) ?_
            refine lv_iadd hx hb dX1_look_123 ?_
            refine xa_top (y := nI (xhc (fun k => TV (16 * j + k)) (i + 1))) (by rw [xhc, h2, show (2 : Int32) = nI 2 from rfl, pk_mul]; exact nI_add _ 1) ?_
            refine lv_istore_n (lv' := [(3, .int (nI (xhc (fun k => TV (16 * j + k)) (i + 1)))), (4, .int (xdn i)), (0, .ref (A 0)), (1, .int (nI j)), (2, .int (nI 1))]) hx hb dX1_look_124 rfl hl (by decide) rfl (fun ls hl => ?_)
            refine lv_iinc (v := xdn (i + 1)) (lv' := [(4, .int (xdn (i + 1))), (3, .int (nI (xhc (fun k => TV (16 * j + k)) (i + 1)))), (0, .ref (A 0)), (1, .int (nI j)), (2, .int (nI 1))]) hx hb dX1_look_125 hl (k := 1) rfl (xdn_s i hin) (by decide) rfl (fun ls hl => ?_)
            refine lv_goto (tgt := 73) hx hb dX1_look_128 (by decide) ?_
            exact ih (i + 1) (by omega) (by omega) ls (lv_sub hl [0, 1, 2, 3, 4] rfl)
    refine lv_iconst (v := 0) hx hb dX1_look_67 (by decide) ?_
    refine lv_istore_n (lv' := [(3, .int 0), (0, .ref (A 0)), (1, .int (nI j)), (2, .int (nI 1))]) hx hb dX1_look_68 rfl hl (by decide) rfl (fun ls hl => ?_)
    refine lv_bipush (v := 15) hx hb dX1_look_69 (by decide) ?_
    refine lv_istore (lv' := [(4, .int 15), (3, .int 0), (0, .ref (A 0)), (1, .int (nI j)), (2, .int (nI 1))]) hx hb dX1_look_71 hl (by decide) rfl (fun ls hl => ?_)
    exact loop 17 0 (by omega) (by omega) ls (lv_sub hl [0, 1, 2, 3, 4] rfl)
  · refine lv_iload_n hx hb dX1_look_36 rfl (lv_at hl 2 rfl) ?_
    refine lv_iconst (v := 2) hx hb dX1_look_37 (by decide) ?_
    refine lv_icmp_ne (tgt := 48) hx hb dX1_look_38 (by decide) (fun h => by first | exact absurd h (by decide) | exact absurd (by decide) h) (fun _ => ?_)
    refine lv_aload_n hx hb dX1_look_41 rfl (lv_at hl 0 rfl) ?_
    refine va_get (D := D) (ci := 1) (v := .ref (A 4)) (C := RX1) (T := TX1) (N := 9) hx hb ht xin_X1 hown hK hP 0 rfl rfl 5 (by decide) (ht _ kfl_RX1_19) (fun _ h9 => h9) rfl dX1_look_42 ?_
    refine lv_iload_n hx hb dX1_look_45 rfl (lv_at hl 1 rfl) ?_
    refine xa_ild hx hb hK hP 4 3 rfl rfl (v := nI (AG j)) (show j < 128 by omega) (by decide) rfl dX1_look_46 ?_
    exact W.iret (v := nI (AG j)) hx hb hr (fun t ht hW => ⟨⟨_, rfl, rfl⟩, by rw [ht]; exact hP, hS.F ht⟩) hS.2.2 dX1_look_47
  · refine lv_iload_n hx hb dX1_look_36 rfl (lv_at hl 2 rfl) ?_
    refine lv_iconst (v := 2) hx hb dX1_look_37 (by decide) ?_
    refine lv_icmp_ne (tgt := 48) hx hb dX1_look_38 (by decide) (fun _ => ?_) (fun h => by first | exact absurd h (by decide) | exact absurd (by decide) h)
    refine lv_iload_n hx hb dX1_look_48 rfl (lv_at hl 2 rfl) ?_
    refine lv_iconst (v := 3) hx hb dX1_look_49 (by decide) ?_
    refine lv_icmp_ne (tgt := 67) hx hb dX1_look_50 (by decide) (fun h => by first | exact absurd h (by decide) | exact absurd (by decide) h) (fun _ => ?_)
    refine lv_aload_n hx hb dX1_look_53 rfl (lv_at hl 0 rfl) ?_
    refine lv_iload_n hx hb dX1_look_54 rfl (lv_at hl 1 rfl) ?_
    refine xr_V (n := 1) (As := [.int (nI j)]) (rest := []) ⟨hx, hb, hml, hown, ht⟩ (m_isTaken l D A K 0 n V TV TO AG OP NX TK hOP j (by omega)) (xg_V kml_RX1_36 kim_yX1_isTaken ksl_yX1_isTaken kin_RX1 kco_yX1_isTaken) ⟨rfl, rfl⟩ (by decide +kernel) ⟨Nat.le_of_ble_eq_true rfl, Nat.le_of_ble_eq_true rfl⟩ (xk_preV hP hK rfl rfl) rfl hl.1 rfl (Nat.le_of_ble_eq_true rfl) dX1_look_55 ⟨Nat.le_of_ble_eq_true rfl, Nat.le_of_ble_eq_true rfl⟩ (fun r1 e1 => ?_)
    subst e1
    refine lv_if_eq (tgt := 65) hx hb dX1_look_58 (by decide) (fun h2 => ?_) (fun h2 => ?_)
    · refine lv_iconst (v := 0) hx hb dX1_look_65 (by decide) ?_
      exact W.iret (v := 0) hx hb hr (fun t ht hW => ⟨⟨_, rfl, by rw [xb_0] at h2; simp [xml, h2, xb]⟩, by rw [ht]; exact hP, hS.F ht⟩) hS.2.2 dX1_look_66
    · refine lv_iconst (v := 1) hx hb dX1_look_61 (by decide) ?_
      refine lv_goto (tgt := 66) hx hb dX1_look_62 (by decide) ?_
      exact W.iret (v := 1) hx hb hr (fun t ht hW => ⟨⟨_, rfl, by rw [xb_n0] at h2; simp [xml, h2, xb]⟩, by rw [ht]; exact hP, hS.F ht⟩) hS.2.2 dX1_look_66
