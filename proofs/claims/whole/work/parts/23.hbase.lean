/-! THE LAW'S OWN SMALL METHODS: their worlds (the object's cells, then the cell of one long) -/
def xo_W (ob : Nat) (kO : ClassId) (f : Nat → Int64) : va_W := [(ob, .inl (kO, 1, .inr (.inl f)))]
def xwH (y : MethodName) (b : ByteArray) (n : Nat) (r : Option FieldType) (hs : List (Nat × Nat × Nat × Nat)) : List Cond := .codeWith y b n r hs :: xT
theorem xg_SH {own : String} {i : Nat} {y : MethodName} {b : ByteArray} {n : Nat} {r : Option FieldType} {hs : List (Nat × Nat × Nat × Nat)} (h1 : .methodLink own i y ∈ xT) (h2 : .static y ∈ xT) (h4 : .initialized y.cls ∈ xT) (h5 : .codeWith y b n r hs ∈ xT) : GoodIn xT (va_wsS own i y (xwH y b n r hs)) := fun w hw =>
  (List.mem_append.mp hw).elim (fun h => by
    rcases List.mem_cons.mp h with rfl | h
    · exact xT_good _ h1
    rcases List.mem_cons.mp h with rfl | h
    · exact xT_good _ h2
    rcases List.mem_cons.mp h with rfl | h
    · exact xT_good _ h4
    cases h) (fun h => (List.mem_cons.mp h).elim (fun e => by rw [e]; exact xT_good _ h5) (fun h => xT_good w h))
theorem xP_l {D : va_G} {a b : va_W} {H : Heap} (h : va_P D xcl (a ++ b) H) : va_P D xcl a H := fun k q hk => h k q (by rw [List.getElem?_append_left (List.getElem?_eq_some_iff.mp hk).1]; exact hk)
theorem xP_r {D : va_G} {a b : va_W} {H : Heap} (h : va_P D xcl (a ++ b) H) : va_P D xcl b H := fun k q hk => h (a.length + k) q (by rw [List.getElem?_append_right (by omega), Nat.add_sub_cancel_left]; exact hk)
theorem xD_l {A : Nat → Prop} {a b : va_W} (h : va_D A (a ++ b)) : va_D A a := by
  have key : ∀ (k : Nat) (q : Nat × va_E), a[k]? = some q → (a ++ b)[k]? = some q := fun k q hk => by rw [List.getElem?_append_left (List.getElem?_eq_some_iff.mp hk).1]; exact hk
  exact ⟨fun i j x y hx hy => h.1 i j x y (key i x hx) (key j y hy), fun k q hk => h.2 k q (key k q hk)⟩
theorem xD_r {A : Nat → Prop} {a b : va_W} (h : va_D A (a ++ b)) : va_D A b := by
  have key : ∀ (k : Nat) (q : Nat × va_E), b[k]? = some q → (a ++ b)[a.length + k]? = some q := fun k q hk => by rw [List.getElem?_append_right (by omega), Nat.add_sub_cancel_left]; exact hk
  exact ⟨fun i j x y hx hy e => by have := h.1 (a.length + i) (a.length + j) x y (key i x hx) (key j y hy) e; omega, fun k q hk => h.2 _ q (key k q hk)⟩
/-- what a call on the cells a leaves alone: b behind it, or ahead -/
theorem xP_keepR {D : va_G} {A : Nat → Prop} {a b : va_W} {H H1 : Heap} (hD : va_D A (a ++ b)) (hP : va_P D xcl b H) (hk : ∀ q : Nat, q < H.size → ¬ va_A a H.size q → H1[q]? = H[q]?) : va_P D xcl b H1 := by
  refine hP.kept (fun k q hq => ?_)
  have hlt := (hP k q hq).lt
  refine hk q.1 hlt ?_
  rintro (⟨k', e', h'⟩ | h')
  · have h1 : (a ++ b)[k']? = some (q.1, e') := by rw [List.getElem?_append_left (List.getElem?_eq_some_iff.mp h').1]; exact h'
    have h2 : (a ++ b)[a.length + k]? = some q := by rw [List.getElem?_append_right (by omega), Nat.add_sub_cancel_left]; exact hq
    have := hD.1 k' (a.length + k) _ _ h1 h2 rfl
    have := (List.getElem?_eq_some_iff.mp h').1
    omega
  · omega
theorem xP_keepL {D : va_G} {A : Nat → Prop} {a b : va_W} {H H1 : Heap} (hD : va_D A (a ++ b)) (hP : va_P D xcl a H) (hk : ∀ q : Nat, q < H.size → ¬ va_A b H.size q → H1[q]? = H[q]?) : va_P D xcl a H1 := by
  refine hP.kept (fun k q hq => ?_)
  have hlt := (hP k q hq).lt
  refine hk q.1 hlt ?_
  rintro (⟨k', e', h'⟩ | h')
  · have h1 : (a ++ b)[k]? = some q := by rw [List.getElem?_append_left (List.getElem?_eq_some_iff.mp hq).1]; exact hq
    have h2 : (a ++ b)[a.length + k']? = some (q.1, e') := by rw [List.getElem?_append_right (by omega), Nat.add_sub_cancel_left]; exact h'
    have := hD.1 k (a.length + k') _ _ h1 h2 rfl
    have := (List.getElem?_eq_some_iff.mp hq).1
    omega
  · omega
def xk_MX (As : List Value) (D : va_G) (tys : List (ClassId × FieldType)) (ws : va_W) (sz sz0 : Nat) (sa : Nat → Nat) : Array Value → State → Prop := va_Pc As (fun U => U.heap.size = sz ∧ va_P D xcl ws U.heap ∧ va_K D xcl tys U ∧ va_D (fun _ => True) ws ∧ xS sz0 sa U)
theorem xk_blindMX {As : List Value} {D : va_G} {tys : List (ClassId × FieldType)} {ws : va_W} {sz sz0 : Nat} {sa : Nat → Nat} : FrameBlind (xk_MX As D tys ws sz sz0 sa) := fun a U g mk q => by obtain ⟨q0, q1, qP, qK, qD, qS⟩ := q; exact ⟨q0, q1, qP, va_K.moved (u := U) (U := U.calling g mk a) (Vm.Alike.refl U.vm) qK, qD, xS_same qS rfl rfl⟩
theorem xk_preMX {s : State} {H : Heap} {As : List Value} {D : va_G} {tys : List (ClassId × FieldType)} {ws : va_W} {sz0 : Nat} {sa : Nat → Nat} {A0 : Nat → Prop} (hP : va_P D xcl ws H) (hK : va_K D xcl tys s) (hD : va_D A0 ws) (hX : xS sz0 sa s) (hH : ∀ q : Nat, q < s.heap.size → q < sz0 → H[q]? = s.heap[q]?) : PreS s H (xk_MX As D tys ws H.size sz0 sa) As := ⟨xk_blindMX, fun U hU hW => ⟨rfl, by rw [hU], by rw [hU]; exact hP, va_K.moved hW.alike hK, hD.weaken (fun _ _ _ _ => trivial), xS_to hX hW (fun q h1 h2 => by rw [hU]; exact hH q h1 h2)⟩⟩
/-- a contract of a method with handlers -/
theorem xt_ofWith {l : Launch} {y : MethodName} {ws ws' : List Cond} {rm : Room} {Pc : Array Value → State → Prop} {Qc : Array Value → State → Outcome → State → Prop} {mc ms : Nat} {free : Addr → Prop} {cc : ByteArray} {maxL : Nat} {ret : Option FieldType} {hs : List (Nat × Nat × Nat × Nat)}
    (hy : plainName y.cls = true) (hw : ws = Cond.codeWith y cc maxL ret hs :: ws')
    (body : ∀ p e s m args below meth c s₁, BodyLoose p l y (headSpec ws rm) cc maxL ret e s m args below meth c s₁ → c.maxLocals = maxL → c.exceptionTable.toList = tableOf hs → Pc args s →
      W p l e (headSpec ws rm).room s m args below meth c s.heap [] 0 0 (MQ below Qc args s mc ms free) (entryFrame m args maxL)) : Met l y ws rm Pc Qc mc ms free := by
  refine MetFree.of_bodyS (code := cc) (maxLocals := maxL) (ret := ret) hy ?_ ?_
  · intro args s m h hn
    obtain ⟨m', meth, c, hn', h1, h2, h3, h4, -, h5, h6, -⟩ := Cond.codeWith_spec (atoms_spec (ws := ws) h _ (by rw [hw]; exact List.mem_cons_self))
    cases hn.symm.trans hn'
    exact ⟨meth, c, h1, h2, h3, h4, h5, h6⟩
  · intro p e s m args below meth c s₁ B hml hP _
    have hh0 : s₁.heap = s.heap := by rw [B.state]; rfl
    have ht := vx_table (x := y) B (atoms_spec (ws := ws) B.pre _ (by rw [hw]; exact List.mem_cons_self))
    obtain ⟨t, a1, o, b1, b2, b3⟩ := body p e s m args below meth c s₁ B hml ht hP s₁ hh0 (Stand.of_body B)
    exact ⟨t, o, a1, b1, b2, ⟨b3.1, b3.2⟩⟩
section XH
variable {p : Program} {l : Launch} {e : Env} {R : Room} {s : State} {m : MethodId} {args : Array Value} {below : List Frame} {meth : Method} {c : Code} {Q : State → Prop}
variable {pc : Nat} {ls : Array Slot} {rest st0 : List Value} {a : Array Value}
/-- the call throws E0; the table's row x behind pre catches it -/
theorem xh_i {E0 : String} {pre suf : List ExceptionTableEntry} {x : ExceptionTableEntry} (hr : vx_Run p l e R s m args below meth c s.heap [] 0 0 1 6 (F0 m pc ls st0) rest (xt_i a) (xt_X E0) (fun _ => False)) (hown : s.vm.findClass RL = some m.cls) (htab : c.exceptionTable.toList = pre ++ x :: suf)
    (hpass : ∀ z ∈ pre, covers z pc = false ∨ (z.catchType ≠ 0 ∧ ∃ nm : String, (Cond.classLink RL z.catchType nm).before args s = true ∧ va_Nc E0 nm s)) (hx : covers x pc = true) (h0 : x.catchType ≠ 0) (hlink : (Cond.classLink RL x.catchType E0).before args s = true) (hcast : (Cond.castable E0 E0).before args s = true)
    (kk : ∀ (y : Nat) (H1 : Heap) (locs1 : List Loc), va_S (fun _ => False) s.heap H1 locs1 → W p l e R s m args below meth c H1 locs1 1 6 Q (F0 m x.handlerPc ls [.ref y])) : W p l e R s m args below meth c s.heap [] 0 0 Q (F0 m pc ls st0) := by
  refine vx_calli (A0 := fun _ => False) hr va_S.rf (fun _ _ h => h) (fun _ h => h) (fun _ _ h => h) ?_ ?_
  · intro E ce q9 u t H1 locs1 ht hvm hpx hBX hz hk hS hcell hv hcl
    cases hBX
    exact vx_catch hown pre x suf htab hpass hx h0 hlink hcast hcell hv hcl (kk q9 H1 locs1 hS)
  · intro r u t H1 locs1 ht hvm hw
    exact hw.elim
theorem xh_v {E0 : String} {pre suf : List ExceptionTableEntry} {x : ExceptionTableEntry} (hr : vx_Run p l e R s m args below meth c s.heap [] 0 0 1 6 (F0 m pc ls st0) rest (xt_v a) (xt_X E0) (fun _ => False)) (hown : s.vm.findClass RL = some m.cls) (htab : c.exceptionTable.toList = pre ++ x :: suf)
    (hpass : ∀ z ∈ pre, covers z pc = false ∨ (z.catchType ≠ 0 ∧ ∃ nm : String, (Cond.classLink RL z.catchType nm).before args s = true ∧ va_Nc E0 nm s)) (hx : covers x pc = true) (h0 : x.catchType ≠ 0) (hlink : (Cond.classLink RL x.catchType E0).before args s = true) (hcast : (Cond.castable E0 E0).before args s = true)
    (kk : ∀ (y : Nat) (H1 : Heap) (locs1 : List Loc), va_S (fun _ => False) s.heap H1 locs1 → W p l e R s m args below meth c H1 locs1 1 6 Q (F0 m x.handlerPc ls [.ref y])) : W p l e R s m args below meth c s.heap [] 0 0 Q (F0 m pc ls st0) := by
  refine vx_callv (A0 := fun _ => False) hr va_S.rf (fun _ _ h => h) (fun _ h => h) (fun _ _ h => h) ?_ ?_
  · intro E ce q9 u t H1 locs1 ht hvm hpx hBX hz hk hS hcell hv hcl
    cases hBX
    exact vx_catch hown pre x suf htab hpass hx h0 hlink hcast hcell hv hcl (kk q9 H1 locs1 hS)
  · intro u t H1 locs1 ht hvm hw
    exact hw.elim
end XH
