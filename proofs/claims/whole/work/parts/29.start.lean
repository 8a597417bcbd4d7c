/-! THE LAW FROM ITS ENTRY -/
theorem xg_I {y : MethodName} {b : ByteArray} {n : Nat} {r : Option FieldType} (h5 : .code y b n r ∈ xT) : GoodIn xT (xw y b n r) := fun w hw => (List.mem_cons.mp hw).elim (fun e => by rw [e]; exact xT_good _ h5) (fun h => xT_good w h)
theorem xS_start {s : State} {b : Nat} (hts : ∀ w ∈ lw_tbl, w.before #[Value.ref b] s = true) (hgv : (Jvm.Cond.and given_1 narrow_1).before #[Value.ref b] s = true) : ∃ sa : Nat → Nat, xS s.heap.size sa s := by
  have hg := flat_of_before _ hgv
  have hstr : ∀ (k : Nat) (tx : String), Cond.stringRef RX0 k tx ∈ lw_tbl → Cond.exactly (.string RX0 k) "java/lang/String" ∈ flatC (Jvm.Cond.and given_1 narrow_1) → ∃ a : Nat, vk_R RX0 k tx a s := by
    intro k tx h1 h2
    obtain ⟨a, c, cA, kA, q1, -⟩ := Cond.exactly_spec (args := #[Value.ref b]) (first := s) (o := none) (s := s) (idx := []) (t := .string RX0 k) (cls := "java/lang/String") (hg _ h2)
    exact ⟨a, vk_R.of (hts _ h1) q1⟩
  obtain ⟨a0, h0⟩ := hstr 43 "no such log" (by decide +kernel) (by decide +kernel)
  obtain ⟨a1, h1⟩ := hstr 53 "no free segment to open" (by decide +kernel) (by decide +kernel)
  obtain ⟨a2, h2⟩ := hstr 67 "no such block" (by decide +kernel) (by decide +kernel)
  obtain ⟨a3, h3⟩ := hstr 72 "the block is not in use" (by decide +kernel) (by decide +kernel)
  obtain ⟨a4, h4⟩ := hstr 96 "no such segment" (by decide +kernel) (by decide +kernel)
  obtain ⟨a5, h5⟩ := hstr 98 "no such thing to look at" (by decide +kernel) (by decide +kernel)
  refine ⟨xA6 a0 a1 a2 a3 a4 a5, ?_, ?_, ?_, h0, h1, h2, h3, h4, h5, va_Nc.of (hg (Cond.castable xIS xIA).not (by decide +kernel))⟩
  · exact vx_Zqof (hts (Cond.laysStatic Bundle.tN "UNASSIGNED_STACK" Bundle.steD) (by decide +kernel)) (hts (Cond.initialized Bundle.tN) (by decide +kernel)) (hg (Cond.isRef (.static Bundle.tN "UNASSIGNED_STACK" Bundle.steD)) (by decide +kernel)) (fun a ha => Nat.not_le.mpr ha)
  · exact vx_Zqof (hts (Cond.laysStatic Bundle.tN "SUPPRESSED_SENTINEL" Bundle.listD) (by decide +kernel)) (hts (Cond.initialized Bundle.tN) (by decide +kernel)) (hg (Cond.isRef (.static Bundle.tN "SUPPRESSED_SENTINEL" Bundle.listD)) (by decide +kernel)) (fun a ha => Nat.not_le.mpr ha)
  · exact fun w hw => va_Nw.of (xN_tab w hw) (hts w (xN_in w hw))
section XLI
variable {p : Program} {l : Launch} {e : Env} {R : Room} {s : State} {m : MethodId} {args : Array Value} {below : List Frame} {meth : Method} {c : Code} {H : Heap} {locs : List Loc} {cells slots mc ms : Nat} {Q : State → Prop}
variable {D : va_G} {ws wr : va_W} {rest st0 : List Value} {pc : Nat} {ls : Array Slot} {a : Array Value}
/-- behind a constructor: its object's cells are there -/
theorem xl_I {o : Nat} {tyf : (Nat → ClassId) → List (ClassId × FieldType)} {wf : (Nat → Nat) → (Nat → ClassId) → va_W} (hr : va_Run p l e R s m args below meth c H locs cells slots mc ms (F0 m pc ls st0) rest (xk_C D ws o tyf wf a) (va_A ws H.size)) (hW : xL_S s D (wr ++ ws) H locs)
    (kk : ∀ (A : Nat → Nat) (K : Nat → ClassId) (H1 : Heap) (locs1 : List Loc), A 0 = o → va_K D xcl (tyf K) s → xL_S s D (wr ++ wf A K) H1 locs1 → W p l e R s m args below meth c H1 locs1 (cells + mc) (slots + ms) Q (F0 m (pc + 3) ls rest)) : W p l e R s m args below meth c H locs cells slots Q (F0 m pc ls st0) := by
  intro T hT X
  obtain ⟨v, st₀, t, T', L, h0, X', hL, e1, e2, ⟨hv, ⟨A, K, hA, hP, hK, hD⟩, hz, hk⟩, st⟩ := hr T hT X
  cases hv
  rw [h0] at hz hk hD
  rw [← e1] at hP hz hk
  have hF := xD_A (xD_r hW.2.1) hW.2.2 (fun _ h => h)
  have hKs : va_K D xcl (tyf K) s := va_K.moved (Vm.Alike.symm (by rw [← e2]; exact X'.warmed.alike)) hK
  have hDD : va_D (fun q : Nat => s.heap.size ≤ q) (wr ++ wf A K) := by
    refine va_D.app (xD_l hW.2.1) (hD.weaken (fun k q _ h => hF _ h)) ?_
    intro i j x y hx hy hxy
    have hlt := (xP_l hW.1 i x hx).lt
    have hy2 := hD.2 j y hy
    rw [← hxy] at hy2
    rcases hy2 with ⟨k, e3, h3⟩ | h3
    · have g1 : (wr ++ ws)[i]? = some x := by rw [List.getElem?_append_left (List.getElem?_eq_some_iff.mp hx).1]; exact hx
      have g2 : (wr ++ ws)[wr.length + k]? = some (x.1, e3) := by rw [List.getElem?_append_right (by omega), Nat.add_sub_cancel_left]; exact h3
      have := hW.2.1.1 i (wr.length + k) _ _ g1 g2 rfl
      have := (List.getElem?_eq_some_iff.mp hx).1
      omega
    · omega
  obtain ⟨t2, a1, b1⟩ := kk A K T'.heap (locs ++ L) hA hKs ⟨(xP_keepL hW.2.1 (xP_l hW.1) hk).app hP, hDD,
    ⟨Nat.le_trans hW.2.2.1 hz, fun q h1 h2 => by rw [hk q (Nat.lt_of_lt_of_le h1 hW.2.2.1) (fun z => h2 (hF q z))]; exact hW.2.2.2.1 q h1 h2, fun q hq => by
      rcases List.mem_append.mp hq with h | h
      · exact hW.2.2.2.2 q h
      · exact hF _ (hL q h)⟩⟩ T' rfl X'
  exact ⟨t2, st t2 a1, b1⟩
theorem xl_preX {b L : Nat} {xs : Nat → Int32} {As : List Value} (hX : va_X b L xs s s.heap) (hbl : b < s.heap.size) (hW : xL_S s D ws H locs) : PreS s H (va_Pc As (fun U => va_X b L xs U U.heap)) As :=
  ⟨fun a U g mk q => ⟨q.1, va_X.moved (u := U) (U := U.calling g mk a) (Vm.Alike.refl U.vm) q.2⟩, fun U hU hU2 => ⟨rfl, by show va_X b L xs U U.heap; rw [hU]; exact va_X.moved hU2.alike (hX.kept (hW.2.2.2.1 b hbl (Nat.not_le.mpr hbl)))⟩⟩
end XLI
set_option maxHeartbeats 4000000 in
set_option maxRecDepth 100000 in
/-- the law, from its entry -/
theorem whole_start {p : Program} {e : Env} {s : State} {m : MethodId} {below : List Frame} {meth : Method} {c : Code} (l : Launch) (hl0 : l.stackTraces = false) {b L : Nat} {xs : Nat → Int32} (hL : L ≤ 1537) (C0 : lw_At p s m meth c b L xs) : W p l e room_1 s m #[Value.ref b] below meth c s.heap [] 0 0 (lw_Z below #[Value.ref b] s) (entryFrame m ([Value.ref b] : List Value).toArray 7) := by
  obtain ⟨hx, hb, hr, hml, hown, hts, hX, hbl, hlocks, hgv⟩ := id C0
  have ht : ∀ w ∈ xT, w.before #[Value.ref b] s = true := fun w h => hts w (List.mem_filter.mp h).1
  obtain ⟨sa, hXS⟩ := xS_start hts hgv
  have hA : ∀ q : Nat, s.heap.size ≤ q → (fun q : Nat => s.heap.size ≤ q) q := fun _ h => h
  obtain ⟨c0, iS0, hKn0⟩ := u_known (C := RX0) (T := TX0) (N := 7) (n := 7) ht xin_X0 (hts (.instantiable RX0 7) (by decide +kernel))
  obtain ⟨c1, iS1, hKn1⟩ := u_known (C := RX1) (T := TX1) (N := 9) (n := 9) ht xin_X1 (hts (.instantiable RX1 9) (by decide +kernel))
  obtain ⟨D, hKcl⟩ : ∃ D : va_G, ∀ (k : Nat) (q : vw_C), xcl[k]? = some q → u_Kn s q.1 q.2.1 q.2.2 (D.1 k) (D.2 k) := by
    refine ⟨(fun k => if k = 0 then c0 else c1, fun k => if k = 0 then iS0 else iS1), ?_⟩
    intro k q hq
    match k, hq with
    | 0, hq => cases hq; exact hKn0
    | 1, hq => cases hq; exact hKn1
    | k + 2, hq => simp [xcl] at hq
  have hS : va_S (fun q : Nat => s.heap.size ≤ q) s.heap s.heap [] := va_S.rf
  have hK : va_K D xcl [] s := ⟨hKcl, fun k q h => by simp at h⟩
  have hP : va_P D xcl [] s.heap := fun k q h => by simp at h
  have hD : va_D (fun q : Nat => s.heap.size ≤ q) [] := ⟨fun i j p q h => by simp at h, fun k q h => by simp at h⟩
  obtain ⟨n, hseg⟩ := xseg_ex (if 0 < L then xs 0 else 0)
  have hn := xseg_n hseg
  have hl := lv_entry ([.ref b]) (n := 7) (Nat.le_of_ble_eq_true rfl)
  rw [lg_entry_eq]
  generalize (lg_sl ([.ref b]) ++ List.replicate (7 - (lg_sl ([.ref b])).length) Slot.unset).toArray = ls at hl ⊢
  have hl : lv_has ls 7 [(0, .ref b)] := hl
  refine va_new (ci := 0) (fs := [.int 0, .null, .null, .null, .null, .null, .int 0]) (C := RX0) (T := TX0) (N := 7) hx hb ht xin_X0 tyX0 tyX0_ok hown (ht _ kcl_RL_8) (hts (.instantiable RX0 7) (by decide +kernel)) (ht _ kin_RX0) hK hP hD hS hA rfl (fun j hj => by rcases (show j = 0 ∨ j = 1 ∨ j = 2 ∨ j = 3 ∨ j = 4 ∨ j = 5 ∨ j = 6 by omega) with rfl | rfl | rfl | rfl | rfl | rfl | rfl <;> rfl) (Nat.le_of_ble_eq_true rfl) (Nat.le_of_ble_eq_true rfl) dL_law_0 (fun q0 H hP hD hS => ?_)
  have hW : xL_S s D ([] ++ [(q0, .inr (0, [.int 0, .null, .null, .null, .null, .null, .int 0]))]) H _ := ⟨hP, hD, hS⟩
  refine lv_dup hx hb dL_law_3 rfl ?_
  refine lv_aload_n hx hb dL_law_4 rfl (lv_at hl 0 rfl) ?_
  refine lv_iconst (v := 0) hx hb dL_law_5 (by decide) ?_
  refine xr_S (n := 2) (As := [.ref b, .int 0]) (rest := [.ref q0, .ref q0]) ⟨hx, hb, hml, hown, ht⟩ (h_cell l b L xs (by omega)) (xg_S kml_RL_32 kst_yL_cell kin_RL kco_yL_cell) ⟨rfl, rfl⟩ (by decide +kernel) ⟨Nat.le_of_ble_eq_true rfl, Nat.le_of_ble_eq_true rfl⟩ (xl_preX hX hbl hW) rfl hl.1 rfl (Nat.le_of_ble_eq_true rfl) dL_law_6 ⟨Nat.le_of_ble_eq_true rfl, Nat.le_of_ble_eq_true rfl⟩ (fun r8 e8 => ?_)
  subst e8
  refine xl_I (o := q0) (ws := [(q0, .inr (0, [.int 0, .null, .null, .null, .null, .null, .int 0]))]) (wr := []) (va_runI (As := [.int (if 0 < L then xs 0 else 0)]) (rest := [.ref q0]) ⟨hx, hb, hml, hown, ht⟩ (c_init l D q0 (if 0 < L then xs 0 else 0) n hseg H.size) (cwI 1 ht (xg_I kco_yX0_init) rfl rfl rfl (ht _ kin_RX0) (ht _ kml_RL_38) (ht _ kim_yX0_init) rfl (by decide +kernel) ⟨Nat.le_of_ble_eq_true rfl, Nat.le_of_ble_eq_true rfl⟩) (xk_preM (xP_r hW.1) hK (xD_r hW.2.1)) rfl rfl hl.1 rfl (lv_room (Nat.le_of_ble_eq_true rfl)) dL_law_9 ⟨Nat.le_of_ble_eq_true rfl, Nat.le_of_ble_eq_true rfl⟩) hW (fun A K H locs0 hA0 hK0 hW9 => ?_)
  subst hA0
  have hW : xL_S s D (xc_W A K n (fun _ => 0) (fun _ => 0) (fun _ => 0) (xZ0 6) (xB0 6) 0) H _ := hW9
  have hP := hW.1
  have hD := hW.2.1
  have hS := hW.2.2
  refine lv_astore_n (lv' := [(1, .ref (A 0)), (0, .ref b)]) hx hb dL_law_12 rfl hl (by decide) rfl (fun ls hl => ?_)
  refine va_new (ci := 1) (fs := [.int 0, .int 0, .null, .null, .null, .null, .null, .null, .int 0]) (C := RX1) (T := TX1) (N := 9) hx hb ht xin_X1 tyX1 tyX1_ok hown (ht _ kcl_RL_40) (hts (.instantiable RX1 9) (by decide +kernel)) (ht _ kin_RX1) hK hP hD hS hA rfl (fun j hj => by rcases (show j = 0 ∨ j = 1 ∨ j = 2 ∨ j = 3 ∨ j = 4 ∨ j = 5 ∨ j = 6 ∨ j = 7 ∨ j = 8 by omega) with rfl | rfl | rfl | rfl | rfl | rfl | rfl | rfl | rfl <;> rfl) (Nat.le_of_ble_eq_true rfl) (Nat.le_of_ble_eq_true rfl) dL_law_13 (fun q1 H hP hD hS => ?_)
  have hW : xL_S s D (xc_W A K n (fun _ => 0) (fun _ => 0) (fun _ => 0) (xZ0 6) (xB0 6) 0 ++ [(q1, .inr (1, [.int 0, .int 0, .null, .null, .null, .null, .null, .null, .int 0]))]) H _ := ⟨hP, hD, hS⟩
  refine lv_dup hx hb dL_law_16 rfl ?_
  refine lv_aload_n hx hb dL_law_17 rfl (lv_at hl 1 rfl) ?_
  refine lv_iconst (v := 0) hx hb dL_law_18 (by decide) ?_
  refine xr_S (n := 2) (As := [.ref b, .int 0]) (rest := [.ref q1, .ref q1]) ⟨hx, hb, hml, hown, ht⟩ (h_cell l b L xs (by omega)) (xg_S kml_RL_32 kst_yL_cell kin_RL kco_yL_cell) ⟨rfl, rfl⟩ (by decide +kernel) ⟨Nat.le_of_ble_eq_true rfl, Nat.le_of_ble_eq_true rfl⟩ (xl_preX hX hbl hW) rfl hl.1 rfl (Nat.le_of_ble_eq_true rfl) dL_law_19 ⟨Nat.le_of_ble_eq_true rfl, Nat.le_of_ble_eq_true rfl⟩ (fun r8 e8 => ?_)
  subst e8
  refine xl_I (o := q1) (ws := [(q1, .inr (1, [.int 0, .int 0, .null, .null, .null, .null, .null, .null, .int 0]))]) (wr := xc_W A K n (fun _ => 0) (fun _ => 0) (fun _ => 0) (xZ0 6) (xB0 6) 0) (va_runI (As := [.int (if 0 < L then xs 0 else 0)]) (rest := [.ref q1]) ⟨hx, hb, hml, hown, ht⟩ (m_init l D q1 (if 0 < L then xs 0 else 0) n hseg H.size) (cwI 1 ht (xg_I kco_yX1_init) rfl rfl rfl (ht _ kin_RX1) (ht _ kml_RL_42) (ht _ kim_yX1_init) rfl (by decide +kernel) ⟨Nat.le_of_ble_eq_true rfl, Nat.le_of_ble_eq_true rfl⟩) (xk_preM (xP_r hW.1) hK (xD_r hW.2.1)) rfl rfl hl.1 rfl (lv_room (Nat.le_of_ble_eq_true rfl)) dL_law_22 ⟨Nat.le_of_ble_eq_true rfl, Nat.le_of_ble_eq_true rfl⟩) hW (fun A2 K2 H locs1 hA1 hK1 hW9 => ?_)
  subst hA1
  have hW : xL_S s D (xc_W A K n (fun _ => 0) (fun _ => 0) (fun _ => 0) (xZ0 6) (xB0 6) 0 ++ xm_W A2 K2 0 n (fun _ => false) (fun _ => false) (fun _ => false) (fun _ => 0) (xO0 6) (fun _ => 0) 0) H _ := hW9
  have hP := hW.1
  have hD := hW.2.1
  have hS := hW.2.2
  refine lv_astore_n (lv' := [(2, .ref (A2 0)), (1, .ref (A 0)), (0, .ref b)]) hx hb dL_law_25 rfl hl (by decide) rfl (fun ls hl => ?_)
  refine lv_iconst (v := 1) hx hb dL_law_26 (by decide) ?_
  refine va_newa (atype := .long) (N' := 1) (ty := .long) (a0 := (1, .inr (.inl (fun _ => 0)))) hx hb (ht _ kar_long) rfl hK hP hD hS hA (fun cA => rfl) (by decide) (by decide) (by decide) (Nat.le_of_ble_eq_true rfl) (Nat.le_of_ble_eq_true rfl) dL_law_27 (fun ob kO H hK2 hP hD hS => ?_)
  refine lv_astore_n (lv' := [(3, .ref ob), (2, .ref (A2 0)), (1, .ref (A 0)), (0, .ref b)]) hx hb dL_law_29 rfl hl (by decide) rfl (fun ls hl => ?_)
  refine lv_iconst (v := 1) hx hb dL_law_30 (by decide) ?_
  refine lv_istore (lv' := [(4, .int 1), (3, .ref ob), (2, .ref (A2 0)), (1, .ref (A 0)), (0, .ref b)]) hx hb dL_law_31 hl (by decide) rfl (fun ls hl => ?_)
  refine W.widen (k := 14 + 0) (n := 4900 + 6 * 0) (Nat.le_of_ble_eq_true rfl) (Nat.le_of_ble_eq_true rfl) ?_
  have hW : xL_S s D ((xc_W A K n (fun _ => 0) (fun _ => 0) (fun _ => 0) (xZ0 6) (xB0 6) 0 ++ xo_W ob kO (fun _ => 0)) ++ xm_W A2 K2 0 n (fun _ => false) (fun _ => false) (fun _ => false) (fun _ => 0) (xO0 6) (fun _ => 0) 0) H _ := ⟨va_P.swap hP, va_D.swap hD, hS⟩
  have hW : xL_S s D (xL_W A K n (fun _ => false) (fun _ => false) (fun _ => false) (fun _ => 0) (xO0 6) (fun _ => 0) 0 ob kO (fun _ => 0) A2 K2 0) H locs1 := by rw [xZ0_tie, xB0_tie] at hW; unfold xL_W; rw [← xmk_none]; exact hW
  have hKK : va_K D xcl (xL_T K kO K2) s := (hK0.app hK2).app hK1
  exact law_loop hL ⟨C0, hKK, hXS, hl0, ht⟩ (L + 1) 0 (by omega) (by omega) _ _ _ _ _ _ _ _ _ _ _ ls (xI_0 hn) hW (lv_sub hl [4, 3, 2, 1, 0] rfl)
