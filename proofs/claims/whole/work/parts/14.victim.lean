def xvC (q : Option (Nat × Nat)) (bs bw : Int32) : Prop := match q with
  | none => bs = -1 ∧ bw = 0
  | some q => bs = nI q.1 ∧ bw = nI q.2 ∧ q.1 < 2 ^ 31 ∧ q.2 < 2 ^ 31
theorem xvic_skip {c : Nat → Bool} {w : Nat → Nat} {i : Nat} (h : c i = false) : xvic c w (i + 1) = xvic c w i := by
  rw [xvic]; cases xvic c w i <;> simp [h]
theorem xvic_new {c : Nat → Bool} {w : Nat → Nat} {i : Nat} (h : c i = true) (hq : xvic c w i = none) : xvic c w (i + 1) = some (i, w i) := by
  rw [xvic, hq]; simp [h]
theorem xvic_gt {c : Nat → Bool} {w : Nat → Nat} {i : Nat} {q : Nat × Nat} (h : c i = true) (hq : xvic c w i = some q) (hw : q.2 < w i) : xvic c w (i + 1) = some (i, w i) := by
  rw [xvic, hq]; simp [h, hw]
theorem xvic_le {c : Nat → Bool} {w : Nat → Nat} {i : Nat} {q : Nat × Nat} (hq : xvic c w i = some q) (hw : w i ≤ q.2) : xvic c w (i + 1) = some q := by
  rw [xvic, hq]; simp; omega
theorem xvC_R {q : Option (Nat × Nat)} {bs bw : Int32} (h : xvC q bs bw) : bs = xvR q := by
  cases q with
  | none => exact h.1
  | some q => exact h.1
set_option maxHeartbeats 4000000 in
set_option maxRecDepth 100000 in
/-- victim -/
theorem c_victim (l : Launch) (D : va_G) (A : Nat → Nat) (K : Nat → ClassId) (n : Nat) (U TH AG : Nat → Nat) (Z : Nat → Bool) (B : Nat → Nat) (TK : Nat) (hn : n ≤ 128) (hU : ∀ j, U j < 65536) (hAG : ∀ j, AG j ≤ TK) (hTK : TK ≤ 100000) (g : Bool) : Met l yX0_victim (xw yX0_victim cX0_victim 7 (some .int)) ({ frames := 1, cells := 0, slots := 0, locals := 22 }) (xk_P [.ref (A 0), .int (xb g)] D (xc_T K) (xc_W A K n U TH AG Z B TK)) (vp_Si (fun r => r = xvR (xvic (xcand U Z) (xwo g U AG TK) n))) 0 0 (fun _ => False) := by
  refine Met.ofW (cc := cX0_victim) (maxL := 7) (ret := (some .int)) (by decide) rfl ?_
  intro p e s m args below meth c s₁ B0 hml hv
  obtain ⟨rfl, hP, hK⟩ := hv
  have hx := B0.exec
  have hb := B0.bytes
  have hr := B0.returns
  have ht : ∀ w ∈ xT, w.before _ s = true := fun w h => atoms_spec (ws := xw yX0_victim cX0_victim 7 (some .int)) B0.pre w (List.mem_cons_of_mem _ h)
  have hown : s.vm.findClass RX0 = some m.cls := findClass_of_methodNamed B0.named
  have hlocks := B0.notSynchronized
  have hl := lv_entry ([.ref (A 0), .int (xb g)]) (n := 7) (Nat.le_of_ble_eq_true rfl)
  rw [lg_entry_eq]
  generalize (lg_sl ([.ref (A 0), .int (xb g)]) ++ List.replicate (7 - (lg_sl ([.ref (A 0), .int (xb g)])).length) Slot.unset).toArray = ls at hl ⊢
  have hl : lv_has ls 7 [(0, .ref (A 0)), (1, .int (xb g))] := hl
  have loop : ∀ (f i : Nat) (bs bw : Int32), i ≤ n → n + 1 ≤ i + f → xvC (xvic (xcand U Z) (xwo g U AG TK) i) bs bw → ∀ ls : Array Slot, lv_has ls 7 [(4, .int (nI i)), (3, .int bw), (2, .int bs), (0, .ref (A 0)), (1, .int (xb g))] → W p l e (headSpec (xw yX0_victim cX0_victim 7 (some .int)) ({ frames := 1, cells := 0, slots := 0, locals := 22 })).room s m ([.ref (A 0), .int (xb g)] : List Value).toArray below meth c s.heap [] 0 0 (MQ below (vp_Si (fun r => r = xvR (xvic (xcand U Z) (xwo g U AG TK) n))) ([.ref (A 0), .int (xb g)] : List Value).toArray s 0 0 (fun _ => False)) (F0 m 7 ls []) := by
    intro f
    induction f with
    | zero => intro i _ _ h1 h2; exact absurd h2 (by omega)
    | succ f ih =>
      intro i bs bw hi hf hc ls hl
      refine lv_iload hx hb dX0_victim_7 (lv_at hl 0 rfl) ?_
      refine lv_aload_n hx hb dX0_victim_9 rfl (lv_at hl 3 rfl) ?_
      refine va_get (D := D) (ci := 0) (v := .int (nI n)) (C := RX0) (T := TX0) (N := 7) hx hb ht xin_X0 hown hK hP 0 rfl rfl 0 (by decide) (ht _ kfl_RX0_9) (fun _ h9 => h9) rfl dX0_victim_10 ?_
      refine lv_icmp_ge (tgt := 104) hx hb dX0_victim_13 (by decide) (fun h1 => ?_) (fun h1 => ?_)
      · have hin : i = n := by
          rcases Nat.lt_or_ge i n with q | q
          · exact absurd h1 (nI_ge q (by omega))
          · omega
        subst hin
        refine lv_iload_n hx hb dX0_victim_104 rfl (lv_at hl 2 rfl) ?_
        exact W.iret (v := bs) hx hb hr (fun t ht hW => ⟨bs, rfl, xvC_R hc, ht⟩) (fun _ h => by cases h) dX0_victim_105
      · have hin : i < n := by
          rcases Nat.lt_or_ge i n with q | q
          · exact q
          · exact absurd (nI_le q (by omega)) h1
        have hpc := xpc_le (U i)
        refine lv_aload_n hx hb dX0_victim_16 rfl (lv_at hl 3 rfl) ?_
        refine va_get (D := D) (ci := 0) (v := .ref (A 1)) (C := RX0) (T := TX0) (N := 7) hx hb ht xin_X0 hown hK hP 0 rfl rfl 1 (by decide) (ht _ kfl_RX0_13) (fun _ h9 => h9) rfl dX0_victim_17 ?_
        refine lv_iload hx hb dX0_victim_20 (lv_at hl 0 rfl) ?_
        refine xa_ild hx hb hK hP 1 0 rfl rfl (v := nI (U i)) hin (by omega) rfl dX0_victim_22 ?_
        refine xr_S (n := 1) (As := [.int (nI (U i))]) (rest := []) ⟨hx, hb, hml, hown, ht⟩ (c_bitCount l (U i) (hU i)) (xg_S kml_RX0_84 kst_yJ6_bitCount_0f7a4 kin_RJ6 kco_yJ6_bitCount_0f7a4) ⟨rfl, rfl⟩ (by decide +kernel) ⟨Nat.le_of_ble_eq_true rfl, Nat.le_of_ble_eq_true rfl⟩ xk_preE rfl hl.1 rfl (Nat.le_of_ble_eq_true rfl) dX0_victim_23 ⟨Nat.zero_le _, Nat.zero_le _⟩ (fun r1 e1 => ?_)
        subst e1
        refine lv_istore (lv' := [(5, .int (nI (xpc (U i)))), (4, .int (nI i)), (3, .int bw), (2, .int bs), (0, .ref (A 0)), (1, .int (xb g))]) hx hb dX0_victim_26 hl (by decide) rfl (fun ls hl => ?_)
        refine lv_aload_n hx hb dX0_victim_28 rfl (lv_at hl 4 rfl) ?_
        refine va_get (D := D) (ci := 0) (v := .ref (A 4)) (C := RX0) (T := TX0) (N := 7) hx hb ht xin_X0 hown hK hP 0 rfl rfl 4 (by decide) (ht _ kfl_RX0_23) (fun _ h9 => h9) rfl dX0_victim_29 ?_
        refine lv_iload hx hb dX0_victim_32 (lv_at hl 1 rfl) ?_
        refine xa_zld hx hb hK hP 4 3 rfl rfl (v := xb (Z i)) hin (by omega) rfl dX0_victim_34 ?_
        refine lv_if_ne (tgt := 98) hx hb dX0_victim_35 (by decide) (fun h2 => ?_) (fun h2 => ?_)
        · refine lv_iinc (v := nI (i + 1)) (lv' := [(4, .int (nI (i + 1))), (5, .int (nI (xpc (U i)))), (3, .int bw), (2, .int bs), (0, .ref (A 0)), (1, .int (xb g))]) hx hb dX0_victim_98 hl (k := 1) rfl (nI_1 i) (by decide) rfl (fun ls hl => ?_)
          refine lv_goto (tgt := 7) hx hb dX0_victim_101 (by decide) ?_
          exact ih (i + 1) bs bw (by omega) (by omega) (by rw [xvic_skip (by rw [xb_n0] at h2; simp [xcand, h2])]; exact hc) ls (lv_sub hl [0, 2, 3, 4, 5] rfl)
        · rw [xb_0] at h2
          refine lv_iload hx hb dX0_victim_38 (lv_at hl 0 rfl) ?_
          refine lv_iconst (v := 1) hx hb dX0_victim_40 (by decide) ?_
          refine lv_icmp_lt (tgt := 98) hx hb dX0_victim_41 (by decide) (fun h3 => ?_) (fun h3 => ?_)
          · have hz : xpc (U i) = 0 := by
              rcases Nat.eq_zero_or_pos (xpc (U i)) with q | q
              · exact q
              · exact absurd h3 (nI_nlt (b := 1) q (by omega))
            refine lv_iinc (v := nI (i + 1)) (lv' := [(4, .int (nI (i + 1))), (5, .int (nI (xpc (U i)))), (3, .int bw), (2, .int bs), (0, .ref (A 0)), (1, .int (xb g))]) hx hb dX0_victim_98 hl (k := 1) rfl (nI_1 i) (by decide) rfl (fun ls hl => ?_)
            refine lv_goto (tgt := 7) hx hb dX0_victim_101 (by decide) ?_
            exact ih (i + 1) bs bw (by omega) (by omega) (by rw [xvic_skip (by simp [xcand, hz])]; exact hc) ls (lv_sub hl [0, 2, 3, 4, 5] rfl)
          · have hz : 0 < xpc (U i) := by
              rcases Nat.eq_zero_or_pos (xpc (U i)) with q | q
              · exact absurd (by rw [q]; decide) h3
              · exact q
            refine lv_iload hx hb dX0_victim_44 (lv_at hl 0 rfl) ?_
            refine lv_bipush (v := 16) hx hb dX0_victim_46 (by decide) ?_
            refine lv_icmp_lt (tgt := 54) hx hb dX0_victim_48 (by decide) (fun h4 => ?_) (fun h4 => ?_)
            · have hz6 : xpc (U i) < 16 := by
                rcases Nat.lt_or_ge (xpc (U i)) 16 with q | q
                · exact q
                · exact absurd h4 (nI_nlt (b := 16) q (by omega))
              have hca : xcand U Z i = true := by simp [xcand, h2, hz, hz6]
              have hwl : xwo g U AG TK i < 2 ^ 31 := xwo_lt hTK
              have tail : ∀ ls : Array Slot, lv_has ls 7 [(5, .int (nI (xpc (U i)))), (4, .int (nI i)), (3, .int bw), (2, .int bs), (0, .ref (A 0)), (1, .int (xb g))] → W p l e (headSpec (xw yX0_victim cX0_victim 7 (some .int)) ({ frames := 1, cells := 0, slots := 0, locals := 22 })).room s m ([.ref (A 0), .int (xb g)] : List Value).toArray below meth c s.heap [] 0 0 (MQ below (vp_Si (fun r => r = xvR (xvic (xcand U Z) (xwo g U AG TK) n))) ([.ref (A 0), .int (xb g)] : List Value).toArray s 0 0 (fun _ => False)) (F0 m 79 ls [.int (nI (xwo g U AG TK i))]) := by
                intro ls hl
                refine lv_istore (lv' := [(6, .int (nI (xwo g U AG TK i))), (5, .int (nI (xpc (U i)))), (4, .int (nI i)), (3, .int bw), (2, .int bs), (0, .ref (A 0)), (1, .int (xb g))]) hx hb dX0_victim_79 hl (by decide) rfl (fun ls hl => ?_)
                refine lv_iload_n hx hb dX0_victim_81 rfl (lv_at hl 4 rfl) ?_
                refine lv_iconst (v := -1) hx hb dX0_victim_82 (by decide) ?_
                cases hq : xvic (xcand U Z) (xwo g U AG TK) i with
                | none =>
                  rw [hq] at hc
                  obtain ⟨rfl, rfl⟩ := hc
                  refine lv_icmp_eq (tgt := 92) hx hb dX0_victim_83 (by decide) (fun h5 => ?_) (fun h5 => ?_)
                  · refine lv_iload hx hb dX0_victim_92 (lv_at hl 2 rfl) ?_
                    refine lv_istore_n (lv' := [(2, .int (nI i)), (6, .int (nI (xwo g U AG TK i))), (5, .int (nI (xpc (U i)))), (4, .int (nI i)), (3, .int 0), (0, .ref (A 0)), (1, .int (xb g))]) hx hb dX0_victim_94 rfl hl (by decide) rfl (fun ls hl => ?_)
                    refine lv_iload hx hb dX0_victim_95 (lv_at hl 1 rfl) ?_
                    refine lv_istore_n (lv' := [(3, .int (nI (xwo g U AG TK i))), (2, .int (nI i)), (6, .int (nI (xwo g U AG TK i))), (5, .int (nI (xpc (U i)))), (4, .int (nI i)), (0, .ref (A 0)), (1, .int (xb g))]) hx hb dX0_victim_97 rfl hl (by decide) rfl (fun ls hl => ?_)
                    refine lv_iinc (v := nI (i + 1)) (lv' := [(4, .int (nI (i + 1))), (3, .int (nI (xwo g U AG TK i))), (2, .int (nI i)), (6, .int (nI (xwo g U AG TK i))), (5, .int (nI (xpc (U i)))), (0, .ref (A 0)), (1, .int (xb g))]) hx hb dX0_victim_98 hl (k := 4) rfl (nI_1 i) (by decide) rfl (fun ls hl => ?_)
                    refine lv_goto (tgt := 7) hx hb dX0_victim_101 (by decide) ?_
                    exact ih (i + 1) (nI i) (nI (xwo g U AG TK i)) (by omega) (by omega) (by rw [xvic_new hca hq]; exact ⟨rfl, rfl, by omega, hwl⟩) ls (lv_sub hl [0, 1, 2, 5, 6] rfl)
                  · exact absurd rfl h5
                | some q =>
                  rw [hq] at hc
                  obtain ⟨rfl, rfl, hq1, hq2⟩ := hc
                  refine lv_icmp_eq (tgt := 92) hx hb dX0_victim_83 (by decide) (fun h5 => ?_) (fun h5 => ?_)
                  · exact absurd h5 (xp_m1 hq1)
                  · refine lv_iload hx hb dX0_victim_86 (lv_at hl 0 rfl) ?_
                    refine lv_iload_n hx hb dX0_victim_88 rfl (lv_at hl 3 rfl) ?_
                    refine lv_icmp_le (tgt := 98) hx hb dX0_victim_89 (by decide) (fun h6 => ?_) (fun h6 => ?_)
                    · have hle : xwo g U AG TK i ≤ q.2 := (nI_leI hwl hq2).mp h6
                      refine lv_iinc (v := nI (i + 1)) (lv' := [(4, .int (nI (i + 1))), (6, .int (nI (xwo g U AG TK i))), (5, .int (nI (xpc (U i)))), (3, .int (nI q.2)), (2, .int (nI q.1)), (0, .ref (A 0)), (1, .int (xb g))]) hx hb dX0_victim_98 hl (k := 2) rfl (nI_1 i) (by decide) rfl (fun ls hl => ?_)
                      refine lv_goto (tgt := 7) hx hb dX0_victim_101 (by decide) ?_
                      exact ih (i + 1) (nI q.1) (nI q.2) (by omega) (by omega) (by rw [xvic_le hq hle]; exact ⟨rfl, rfl, hq1, hq2⟩) ls (lv_sub hl [0, 3, 4, 5, 6] rfl)
                    · have hlt : q.2 < xwo g U AG TK i := Nat.lt_of_not_le (fun z => h6 ((nI_leI hwl hq2).mpr z))
                      refine lv_iload hx hb dX0_victim_92 (lv_at hl 2 rfl) ?_
                      refine lv_istore_n (lv' := [(2, .int (nI i)), (6, .int (nI (xwo g U AG TK i))), (5, .int (nI (xpc (U i)))), (4, .int (nI i)), (3, .int (nI q.2)), (0, .ref (A 0)), (1, .int (xb g))]) hx hb dX0_victim_94 rfl hl (by decide) rfl (fun ls hl => ?_)
                      refine lv_iload hx hb dX0_victim_95 (lv_at hl 1 rfl) ?_
                      refine lv_istore_n (lv' := [(3, .int (nI (xwo g U AG TK i))), (2, .int (nI i)), (6, .int (nI (xwo g U AG TK i))), (5, .int (nI (xpc (U i)))), (4, .int (nI i)), (0, .ref (A 0)), (1, .int (xb g))]) hx hb dX0_victim_97 rfl hl (by decide) rfl (fun ls hl => ?_)
                      refine lv_iinc (v := nI (i + 1)) (lv' := [(4, .int (nI (i + 1))), (3, .int (nI (xwo g U AG TK i))), (2, .int (nI i)), (6, .int (nI (xwo g U AG TK i))), (5, .int (nI (xpc (U i)))), (0, .ref (A 0)), (1, .int (xb g))]) hx hb dX0_victim_98 hl (k := 4) rfl (nI_1 i) (by decide) rfl (fun ls hl => ?_)
                      refine lv_goto (tgt := 7) hx hb dX0_victim_101 (by decide) ?_
                      exact ih (i + 1) (nI i) (nI (xwo g U AG TK i)) (by omega) (by omega) (by rw [xvic_gt hca hq hlt]; exact ⟨rfl, rfl, by omega, hwl⟩) ls (lv_sub hl [0, 1, 2, 5, 6] rfl)
              refine lv_iload_n hx hb dX0_victim_54 rfl (lv_at hl 5 rfl) ?_
              refine lv_if_eq (tgt := 74) hx hb dX0_victim_55 (by decide) (fun h7 => ?_) (fun h7 => ?_)
              · rw [xb_0] at h7
                subst h7
                refine lv_bipush (v := 16) hx hb dX0_victim_74 (by decide) ?_
                refine lv_iload hx hb dX0_victim_76 (lv_at hl 0 rfl) ?_
                refine lv_isub hx hb dX0_victim_78 ?_
                refine xa_top (y := nI (xwo false U AG TK i)) ((pk_sub (a := 16) hpc).trans rfl) ?_
                exact tail ls (lv_sub hl [0, 1, 2, 3, 4, 5] rfl)
              · rw [xb_n0] at h7
                subst h7
                refine lv_aload_n hx hb dX0_victim_58 rfl (lv_at hl 4 rfl) ?_
                refine lv_iload hx hb dX0_victim_59 (lv_at hl 0 rfl) ?_
                refine lv_aload_n hx hb dX0_victim_61 rfl (lv_at hl 4 rfl) ?_
                refine va_get (D := D) (ci := 0) (v := .ref (A 3)) (C := RX0) (T := TX0) (N := 7) hx hb ht xin_X0 hown hK hP 0 rfl rfl 3 (by decide) (ht _ kfl_RX0_20) (fun _ h9 => h9) rfl dX0_victim_62 ?_
                refine lv_iload hx hb dX0_victim_65 (lv_at hl 1 rfl) ?_
                refine xa_ild hx hb hK hP 3 2 rfl rfl (v := nI (AG i)) hin (by omega) rfl dX0_victim_67 ?_
                refine xr_V (n := 2) (As := [.int (nI (xpc (U i))), .int (nI (AG i))]) (rest := []) ⟨hx, hb, hml, hown, ht⟩ (c_gentleWorth l D A K n U TH AG Z B TK (xpc (U i)) (AG i) hpc (hAG i) hTK) (xg_V kml_RX0_89 kim_yX0_gentleWorth ksl_yX0_gentleWorth kin_RX0 kco_yX0_gentleWorth) ⟨rfl, rfl⟩ (by decide +kernel) ⟨Nat.le_of_ble_eq_true rfl, Nat.le_of_ble_eq_true rfl⟩ (xk_preV hP hK rfl rfl) rfl hl.1 rfl (Nat.le_of_ble_eq_true rfl) dX0_victim_68 ⟨Nat.zero_le _, Nat.zero_le _⟩ (fun r2 e2 => ?_)
                subst e2
                refine lv_goto (tgt := 79) hx hb dX0_victim_71 (by decide) ?_
                exact tail ls (lv_sub hl [0, 1, 2, 3, 4, 5] rfl)
            · have hz6 : xpc (U i) = 16 := by
                rcases Nat.lt_or_ge (xpc (U i)) 16 with q | q
                · exact absurd (nI_lt (b := 16) q (by omega)) h4
                · omega
              refine lv_goto (tgt := 98) hx hb dX0_victim_51 (by decide) ?_
              refine lv_iinc (v := nI (i + 1)) (lv' := [(4, .int (nI (i + 1))), (5, .int (nI (xpc (U i)))), (3, .int bw), (2, .int bs), (0, .ref (A 0)), (1, .int (xb g))]) hx hb dX0_victim_98 hl (k := 1) rfl (nI_1 i) (by decide) rfl (fun ls hl => ?_)
              refine lv_goto (tgt := 7) hx hb dX0_victim_101 (by decide) ?_
              exact ih (i + 1) bs bw (by omega) (by omega) (by rw [xvic_skip (by simp [xcand, hz6])]; exact hc) ls (lv_sub hl [0, 2, 3, 4, 5] rfl)
  refine lv_iconst (v := -1) hx hb dX0_victim_0 (by decide) ?_
  refine lv_istore_n (lv' := [(2, .int (-1)), (0, .ref (A 0)), (1, .int (xb g))]) hx hb dX0_victim_1 rfl hl (by decide) rfl (fun ls hl => ?_)
  refine lv_iconst (v := 0) hx hb dX0_victim_2 (by decide) ?_
  refine lv_istore_n (lv' := [(3, .int 0), (2, .int (-1)), (0, .ref (A 0)), (1, .int (xb g))]) hx hb dX0_victim_3 rfl hl (by decide) rfl (fun ls hl => ?_)
  refine lv_iconst (v := 0) hx hb dX0_victim_4 (by decide) ?_
  refine lv_istore (lv' := [(4, .int 0), (3, .int 0), (2, .int (-1)), (0, .ref (A 0)), (1, .int (xb g))]) hx hb dX0_victim_5 hl (by decide) rfl (fun ls hl => ?_)
  exact loop (n + 1) 0 (-1) 0 (by omega) (by omega) ⟨rfl, rfl⟩ ls (lv_sub hl [0, 1, 2, 3, 4] rfl)
