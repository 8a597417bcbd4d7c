/-! THE WORLDS OF THE CLASS AND OF THE REFERENCE, AND ROWS FOR CALLS -/
def xb (b : Bool) : Int32 := if b then 1 else 0
theorem xb_t : xb true = 1 := rfl
theorem xb_f : xb false = 0 := rfl
theorem xb_0 {b : Bool} : xb b = 0 ↔ b = false := by cases b <;> simp [xb] <;> decide
theorem xb_n0 {b : Bool} : ¬ xb b = 0 ↔ b = true := by cases b <;> simp [xb] <;> decide
/-- the class: A its addresses, K its arrays' kinds; U, TH masks of blocks in use now and at the checkpoint, AG ages, Z taken, B the logs' next blocks, TK takings -/
def xc_W (A : Nat → Nat) (K : Nat → ClassId) (n : Nat) (U TH AG : Nat → Nat) (Z : Nat → Bool) (B : Nat → Nat) (TK : Nat) : va_W :=
  [(A 0, .inr (0, [.int (nI n), .ref (A 1), .ref (A 2), .ref (A 3), .ref (A 4), .ref (A 5), .int (nI TK)])), (A 1, .inl (K 1, n, .inl (fun j => nI (U j)))), (A 2, .inl (K 2, n, .inl (fun j => nI (TH j)))), (A 3, .inl (K 3, n, .inl (fun j => nI (AG j)))), (A 4, .inl (K 4, n, .inl (fun j => xb (Z j)))), (A 5, .inl (K 5, 6, .inl (fun j => nI (B j))))]
def xc_T (K : Nat → ClassId) : List (ClassId × FieldType) := [(K 1, .int), (K 2, .int), (K 3, .int), (K 4, .boolean), (K 5, .int)]
/-- the reference: th what was thrown, V, TV blocks in use now and at the checkpoint, TO touched, AG ages, OP, NX the logs' segments and places, TK takings -/
def xm_W (A : Nat → Nat) (K : Nat → ClassId) (th n : Nat) (V TV TO : Nat → Bool) (AG OP NX : Nat → Nat) (TK : Nat) : va_W :=
  [(A 0, .inr (1, [.int (nI th), .int (nI n), .ref (A 1), .ref (A 2), .ref (A 3), .ref (A 4), .ref (A 5), .ref (A 6), .int (nI TK)])), (A 1, .inl (K 1, 2048, .inl (fun j => xb (V j)))), (A 2, .inl (K 2, 2048, .inl (fun j => xb (TV j)))), (A 3, .inl (K 3, 128, .inl (fun j => xb (TO j)))), (A 4, .inl (K 4, 128, .inl (fun j => nI (AG j)))), (A 5, .inl (K 5, 6, .inl (fun j => nI (OP j)))), (A 6, .inl (K 6, 6, .inl (fun j => nI (NX j))))]
def xm_T (K : Nat → ClassId) : List (ClassId × FieldType) := [(K 1, .boolean), (K 2, .boolean), (K 3, .boolean), (K 4, .int), (K 5, .int), (K 6, .int)]
/-! functions set at a place -/
theorem xu_n (f : Nat → Nat) (k v : Nat) : upd (fun j => nI (f j)) k (nI v) = fun j => nI (va_up f k v j) := by
  funext j
  by_cases h : j = k <;> simp [upd, va_up, h]
theorem xu_b (f : Nat → Bool) (k : Nat) (v : Bool) : upd (fun j => xb (f j)) k (xb v) = fun j => xb (va_up f k v j) := by
  funext j
  by_cases h : j = k <;> simp [upd, va_up, h]
/-! starts and ends of methods -/
def xk_P (As : List Value) (D : va_G) (tys : List (ClassId × FieldType)) (ws : va_W) : Array Value → State → Prop := va_Pc As (fun U => va_P D xcl ws U.heap ∧ va_K D xcl tys U)
def xk_E (As : List Value) : Array Value → State → Prop := fun v _ => v = As.toArray
def xk_M (As : List Value) (D : va_G) (tys : List (ClassId × FieldType)) (ws : va_W) (sz : Nat) : Array Value → State → Prop := va_Pc As (fun U => U.heap.size = sz ∧ va_P D xcl ws U.heap ∧ va_K D xcl tys U ∧ va_D (fun _ => True) ws)
def xk_Q (post : Option Value → Prop) (D : va_G) (ws ws' : va_W) : Array Value → State → Outcome → State → Prop := fun _ st oc t => (∃ v, oc = .returned v ∧ post v) ∧ va_P D xcl ws' t.heap ∧ va_F (va_A ws st.heap.size) st t
section XK
variable {p : Program} {l : Launch} {e : Env} {R : Room} {s : State} {m : MethodId} {args : Array Value} {below : List Frame} {meth : Method} {c : Code} {H : Heap} {locs : List Loc} {cells slots : Nat} {Q : State → Prop}
variable {D : va_G} {tys : List (ClassId × FieldType)} {ws ws' : va_W} {As rest st0 : List Value} {b : Addr} {pc : Nat} {ls : Array Slot}
theorem xk_blindP : FrameBlind (xk_P As D tys ws) := fun a U g mk q => by obtain ⟨q0, qP, qK⟩ := q; exact ⟨q0, qP, va_K.moved (u := U) (U := U.calling g mk a) (Vm.Alike.refl U.vm) qK⟩
theorem xk_preP (hP : va_P D xcl ws H) (hK : va_K D xcl tys s) : PreS s H (xk_P As D tys ws) As := ⟨xk_blindP, fun U hU hW => ⟨rfl, by rw [hU]; exact hP, va_K.moved hW.alike hK⟩⟩
theorem xk_preV {C : String} {T : u_T} {N ci : Nat} {fs : List Value} (hP : va_P D xcl ws H) (hK : va_K D xcl tys s) (he : ws[0]? = some (b, .inr (ci, fs))) (hc : xcl[ci]? = some (C, T, N)) : PreV s H C b (xk_P (.ref b :: As) D tys ws) As := ⟨xk_blindP, va_recv (q := (C, T, N)) hK hP hc he, (xk_preP (As := .ref b :: As) hP hK).2⟩
theorem xk_preE : PreS s H (xk_E As) As := ⟨fun _ _ _ _ q => q, fun _ _ _ => rfl⟩
theorem xk_blindM {sz : Nat} : FrameBlind (xk_M As D tys ws sz) := fun a U g mk q => by obtain ⟨q0, q1, qP, qK, qD⟩ := q; exact ⟨q0, q1, qP, va_K.moved (u := U) (U := U.calling g mk a) (Vm.Alike.refl U.vm) qK, qD⟩
theorem xk_preM {A0 : Nat → Prop} (hP : va_P D xcl ws H) (hK : va_K D xcl tys s) (hD : va_D A0 ws) : PreS s H (xk_M As D tys ws H.size) As := ⟨xk_blindM, fun U hU hW => ⟨rfl, by rw [hU], by rw [hU]; exact hP, va_K.moved hW.alike hK, hD.weaken (fun _ _ _ _ => trivial)⟩⟩
theorem xk_preMV {A0 : Nat → Prop} {C : String} {T : u_T} {N ci : Nat} {fs : List Value} (hP : va_P D xcl ws H) (hK : va_K D xcl tys s) (hD : va_D A0 ws) (he : ws[0]? = some (b, .inr (ci, fs))) (hc : xcl[ci]? = some (C, T, N)) : PreV s H C b (xk_M (.ref b :: As) D tys ws H.size) As := ⟨xk_blindM, va_recv (q := (C, T, N)) hK hP hc he, (xk_preM (As := .ref b :: As) hP hK hD).2⟩
/-- a world's addresses, set apart already, with other contents -/
theorem xD_same {A0 : Nat → Prop} (h : ws.map (·.1) = ws'.map (·.1)) (hD : va_D A0 ws) : va_D A0 ws' := by
  have key : ∀ (k : Nat) (q : Nat × va_E), ws'[k]? = some q → ∃ e0, ws[k]? = some (q.1, e0) := by
    intro k q hq
    have h1 : (ws'.map (·.1))[k]? = some q.1 := by rw [List.getElem?_map, hq]; rfl
    rw [← h, List.getElem?_map] at h1
    cases hw : ws[k]? with
    | none => rw [hw] at h1; cases h1
    | some x => rw [hw] at h1; obtain ⟨x1, x2⟩ := x; cases h1; exact ⟨x2, rfl⟩
  refine ⟨fun i j x y hx hy hxy => ?_, fun k q hq => ?_⟩
  · obtain ⟨e1, h1⟩ := key i x hx
    obtain ⟨e2, h2⟩ := key j y hy
    exact hD.1 i j _ _ h1 h2 hxy
  · obtain ⟨e1, h1⟩ := key k q hq
    exact hD.2 k (q.1, e1) h1
theorem xD_A {A0 : Nat → Prop} {H0 : Heap} (hD : va_D A0 ws) (hS : va_S A0 H0 H locs) (hA : ∀ q, H0.size ≤ q → A0 q) : ∀ q, va_A ws H.size q → A0 q := by
  rintro q (⟨k, e1, h⟩ | h)
  · exact hD.2 k _ h
  · exact hA q (Nat.le_trans hS.1 h)
variable {y : MethodName} {bytes cc : ByteArray} {maxL nL n index : Nat} {ret : Option FieldType} {rm : Room} {Pc : Array Value → State → Prop} {own C : String}
/-- a reader, called on an object -/
theorem xr_V {post : Int32 → Prop} (S : CallFix p m c cc nL s args xT own) (hM : Met l y (xw y bytes maxL ret) rm Pc (vp_Si post) 0 0 (fun _ => False)) (hG : GoodIn xT (wsV own index C y (xw y bytes maxL ret))) (hrm : rm.cells = 0 ∧ rm.slots = 0)
    (hd : y.cls = C ∧ y.cls ≠ "java/lang/invoke/MethodHandle" ∧ y.cls ≠ "java/lang/invoke/VarHandle" ∧ (parseMethodDescriptor y.desc).map (fun d => d.parameters.length) = some n) (hR : rm.frames + 1 ≤ R.frames ∧ 8 + (maxL + 11) + rm.locals ≤ R.locals) (hp : PreV s H C b Pc As)
    (hn : As.length = n) (hl : ls.size = nL) (hst : st0 = As.reverse ++ .ref b :: rest) (hW : (rest.map fun v => v.category).sum ≤ 8) (hdg : decode cc pc = .ok (.invokevirtual index, 3)) (hf : cells ≤ R.cells ∧ slots ≤ R.slots)
    (kk : ∀ r : Int32, post r → W p l e R s m args below meth c H locs cells slots Q (F0 m (pc + 3) ls (.int r :: rest))) : W p l e R s m args below meth c H locs cells slots Q (F0 m pc ls st0) :=
  vp_callSi (W.runV S hM (cwV n S.2.2.2.2 hG rfl hrm.1 hrm.2 hd hR) hp rfl hn hl hst (lv_room hW) hdg hf) kk
theorem xr_S {post : Int32 → Prop} (S : CallFix p m c cc nL s args xT own) (hM : Met l y (xw y bytes maxL ret) rm Pc (vp_Si post) 0 0 (fun _ => False)) (hG : GoodIn xT (va_wsS own index y (xw y bytes maxL ret))) (hrm : rm.cells = 0 ∧ rm.slots = 0)
    (hd : y.cls ≠ "java/lang/invoke/MethodHandle" ∧ y.cls ≠ "java/lang/invoke/VarHandle" ∧ (parseMethodDescriptor y.desc).map (fun d => d.parameters.length) = some n) (hR : rm.frames + 1 ≤ R.frames ∧ 8 + (maxL + 11) + rm.locals ≤ R.locals) (hp : PreS s H Pc As)
    (hn : As.length = n) (hl : ls.size = nL) (hst : st0 = As.reverse ++ rest) (hW : (rest.map fun v => v.category).sum ≤ 8) (hdg : decode cc pc = .ok (.invokestatic index, 3)) (hf : cells ≤ R.cells ∧ slots ≤ R.slots)
    (kk : ∀ r : Int32, post r → W p l e R s m args below meth c H locs cells slots Q (F0 m (pc + 3) ls (.int r :: rest))) : W p l e R s m args below meth c H locs cells slots Q (F0 m pc ls st0) :=
  vp_callSi (W.runS S hM (va_cwS n S.2.2.2.2 hG rfl hrm.1 hrm.2 hd hR) hp rfl hn hl hst (lv_room hW) hdg hf) kk
/-- behind a call that changes the callee's world ws to ws' -/
theorem xr_go {post : Option Value → Prop} {A0 : Nat → Prop} {H0 : Heap} {mc ms : Nat} {a : Array Value} (hr : va_Run p l e R s m args below meth c H locs cells slots mc ms (F0 m pc ls st0) rest (xk_Q post D ws ws' a) (va_A ws H.size)) (hS : va_S A0 H0 H locs) (hF : ∀ q, va_A ws H.size q → A0 q)
    (kk : ∀ (v : Option Value) (H1 : Heap) (locs1 : List Loc), post v → va_P D xcl ws' H1 → H.size ≤ H1.size → (∀ q : Nat, q < H.size → ¬ va_A ws H.size q → H1[q]? = H[q]?) → va_S A0 H0 H1 locs1 → W p l e R s m args below meth c H1 locs1 (cells + mc) (slots + ms) Q (F0 m (pc + 3) ls (v.toList ++ rest))) : W p l e R s m args below meth c H locs cells slots Q (F0 m pc ls st0) := by
  intro T hT X
  obtain ⟨v, st₀, t, T', L, h0, X', hL, e1, e2, ⟨⟨v', hv, hp⟩, hP, hz, hk⟩, st⟩ := hr T hT X
  cases hv
  rw [h0] at hz hk
  rw [← e1] at hP hz hk
  obtain ⟨t2, a1, b1⟩ := kk v T'.heap (locs ++ L) hp hP hz hk
    ⟨Nat.le_trans hS.1 hz, fun q h1 h2 => by rw [hk q (Nat.lt_of_lt_of_le h1 hS.1) (fun z => h2 (hF q z))]; exact hS.2.1 q h1 h2, fun q hq => by
      rcases List.mem_append.mp hq with h | h
      · exact hS.2.2 q h
      · exact hF _ (hL q h)⟩ T' rfl X'
  exact ⟨t2, st t2 a1, b1⟩
/-- a method of the object that changes it, called by another of its methods: the whole world is the callee's -/
theorem xr_M {post : Option Value → Prop} {A0 : Nat → Prop} {H0 : Heap} {T : u_T} {N ci : Nat} {fs : List Value} (S : CallFix p m c cc nL s args xT own) (hM : Met l y (xw y bytes maxL ret) rm (xk_M (.ref b :: As) D tys ws H.size) (xk_Q post D ws ws') 0 0 (va_A ws H.size)) (hG : GoodIn xT (wsV own index C y (xw y bytes maxL ret))) (hrm : rm.cells = 0 ∧ rm.slots = 0)
    (hd : y.cls = C ∧ y.cls ≠ "java/lang/invoke/MethodHandle" ∧ y.cls ≠ "java/lang/invoke/VarHandle" ∧ (parseMethodDescriptor y.desc).map (fun d => d.parameters.length) = some n) (hR : rm.frames + 1 ≤ R.frames ∧ 8 + (maxL + 11) + rm.locals ≤ R.locals)
    (hP : va_P D xcl ws H) (hK : va_K D xcl tys s) (hD : va_D A0 ws) (hS : va_S A0 H0 H locs) (hA : ∀ q, H0.size ≤ q → A0 q) (he : ws[0]? = some (b, .inr (ci, fs))) (hc : xcl[ci]? = some (C, T, N)) (hsame : ws.map (·.1) = ws'.map (·.1))
    (hn : As.length = n) (hl : ls.size = nL) (hst : st0 = As.reverse ++ .ref b :: rest) (hW : (rest.map fun v => v.category).sum ≤ 8) (hdg : decode cc pc = .ok (.invokevirtual index, 3)) (hf : cells ≤ R.cells ∧ slots ≤ R.slots)
    (kk : ∀ (v : Option Value) (H1 : Heap) (locs1 : List Loc), post v → va_P D xcl ws' H1 → va_D A0 ws' → va_S A0 H0 H1 locs1 → W p l e R s m args below meth c H1 locs1 cells slots Q (F0 m (pc + 3) ls (v.toList ++ rest))) : W p l e R s m args below meth c H locs cells slots Q (F0 m pc ls st0) :=
  xr_go (va_runV S hM (cwV n S.2.2.2.2 hG rfl hrm.1 hrm.2 hd hR) (xk_preMV hP hK hD he hc) rfl hn hl hst (lv_room hW) hdg hf) hS (xD_A hD hS hA) (fun v H1 locs1 h1 h2 _ _ h5 => kk v H1 locs1 h1 h2 (xD_same hsame hD) h5)
end XK
