/-! WHAT A THROW NEEDS OF THE START: two statics, words that only the tables decide, the messages -/
abbrev xIA : String := "java/lang/IllegalArgumentException"
abbrev xIS : String := "java/lang/IllegalStateException"
abbrev xup : List String := ["java/lang/RuntimeException", "java/lang/Exception"]
def xN : List Cond := [.declares (Bundle.initS "java/lang/RuntimeException"), .declares (Bundle.initS "java/lang/Exception"), .declares (Bundle.initS "java/lang/Throwable"), .castable xIA xIA, .castable xIS xIS]
theorem xN_A : ∀ w ∈ (vx_atS RX0 45 xIA xup).filter (fun w => !goodWord w), w ∈ xN := by decide +kernel
theorem xN_S : ∀ w ∈ (vx_atS RX0 55 xIS xup).filter (fun w => !goodWord w), w ∈ xN := by decide +kernel
theorem xT_A : ∀ w ∈ (vx_atS RX0 45 xIA xup).filter goodWord, w ∈ xT := by decide +kernel
theorem xT_S : ∀ w ∈ (vx_atS RX0 55 xIS xup).filter goodWord, w ∈ xT := by decide +kernel
theorem xN_tab : ∀ w ∈ xN, w.onTables = true := by decide +kernel
theorem xN_in : ∀ w ∈ xN, w ∈ lw_tbl := by decide +kernel
theorem xot_A : ∀ w ∈ Cond.classLink RX0 41 xIA :: Cond.initialized xIA :: vx_atS RX0 45 xIA xup, vx_ot w = true := by decide +kernel
theorem xot_S : ∀ w ∈ Cond.classLink RX0 51 xIS :: Cond.initialized xIS :: vx_atS RX0 55 xIS xup, vx_ot w = true := by decide +kernel
def xS (sz0 : Nat) (sa : Nat → Nat) (U : State) : Prop :=
  vx_Zq Bundle.tN "UNASSIGNED_STACK" Bundle.steD (fun q => sz0 ≤ q) U U.heap ∧ vx_Zq Bundle.tN "SUPPRESSED_SENTINEL" Bundle.listD (fun q => sz0 ≤ q) U U.heap ∧ (∀ w ∈ xN, va_Nw w U) ∧
  vk_R RX0 43 "no such log" (sa 0) U ∧ vk_R RX0 53 "no free segment to open" (sa 1) U ∧ vk_R RX0 67 "no such block" (sa 2) U ∧ vk_R RX0 72 "the block is not in use" (sa 3) U ∧ vk_R RX0 96 "no such segment" (sa 4) U ∧ vk_R RX0 98 "no such thing to look at" (sa 5) U ∧ va_Nc xIS xIA U
theorem xNw {s U : State} (hW : s.WarmedH U.vm) (h : ∀ w ∈ xN, va_Nw w s) : ∀ w ∈ xN, va_Nw w U := by
  intro w hw
  have hs := h w hw
  rcases List.mem_cons.mp hw with rfl | hw
  · exact va_Nw.warmD hW hs
  rcases List.mem_cons.mp hw with rfl | hw
  · exact va_Nw.warmD hW hs
  rcases List.mem_cons.mp hw with rfl | hw
  · exact va_Nw.warmD hW hs
  rcases List.mem_cons.mp hw with rfl | hw
  · exact va_Nw.warmC hW hs
  rcases List.mem_cons.mp hw with rfl | hw
  · exact va_Nw.warmC hW hs
  cases hw
theorem vx_Zq_to {C n d : String} {A : Nat → Prop} {s U : State} (hvm : s.vm.Alike U.vm) (h : vx_Zq C n d A s s.heap) (hq : ∀ a : Nat, a < s.heap.size → ¬ A a → U.heap[a]? = s.heap[a]?) : vx_Zq C n d A U U.heap := (h.kept hq).moved hvm
theorem xS_to {sz0 : Nat} {sa : Nat → Nat} {s U : State} (h : xS sz0 sa s) (hW : s.WarmedH U.vm) (hq : ∀ q : Nat, q < s.heap.size → q < sz0 → U.heap[q]? = s.heap[q]?) : xS sz0 sa U := by
  obtain ⟨h1, h2, h3, h4, h5, h6, h7, h8, h9, h10⟩ := h
  have hq' : ∀ a : Nat, a < s.heap.size → ¬ (fun q => sz0 ≤ q) a → U.heap[a]? = s.heap[a]? := fun a ha hb => hq a ha (Nat.lt_of_not_le hb)
  exact ⟨vx_Zq_to hW.alike h1 hq', vx_Zq_to hW.alike h2 hq', xNw hW h3, h4.warm hW, h5.warm hW, h6.warm hW, h7.warm hW, h8.warm hW, h9.warm hW, h10.moved hW.alike⟩
/-- the same tables, the same heap: another frame -/
theorem xS_same {sz0 : Nat} {sa : Nat → Nat} {u U : State} (h : xS sz0 sa u) (hv : U.vm = u.vm) (hh : U.heap = u.heap) : xS sz0 sa U := by
  obtain ⟨h1, h2, h3, h4, h5, h6, h7, h8, h9, h10⟩ := h
  have hal : u.vm.Alike U.vm := by rw [hv]; exact Vm.Alike.refl _
  exact ⟨by rw [hh]; exact vx_Zq.moved hal h1, by rw [hh]; exact vx_Zq.moved hal h2, fun w hw => va_Nw.same (xN_tab w hw) hv.symm (h3 w hw), h4.same hv, h5.same hv, h6.same hv, h7.same hv, h8.same hv, h9.same hv, h10.moved hal⟩
/-! a method that throws E0, having changed nothing -/
def xt_X (E0 : String) : String → State → State → Prop := vx_X (fun _ : Unit => True) (fun E _ _ => E = E0) (fun _ => False)
def xt_i : Array Value → State → Outcome → State → Prop := va_Qi (fun (_ : Int32) (_ : Unit) => False) (fun _ _ => True) (fun _ => False)
def xt_v : Array Value → State → Outcome → State → Prop := va_Qv (fun (_ : Unit) => False) (fun _ _ => True) (fun _ => False)
def xk_X (As : List Value) (D : va_G) (tys : List (ClassId × FieldType)) (ws : va_W) (sz0 : Nat) (sa : Nat → Nat) : Array Value → State → Prop := va_Pc As (fun U => va_P D xcl ws U.heap ∧ va_K D xcl tys U ∧ xS sz0 sa U)
section XX
variable {p : Program} {l : Launch} {e : Env} {R : Room} {s : State} {m : MethodId} {args : Array Value} {below : List Frame} {meth : Method} {c : Code} {cells slots : Nat}
variable {D : va_G} {tys : List (ClassId × FieldType)} {ws : va_W} {As rest : List Value} {b : Addr} {pc : Nat} {ls : Array Slot} {H : Heap}
theorem xk_blindX {sz0 : Nat} {sa : Nat → Nat} : FrameBlind (xk_X As D tys ws sz0 sa) := fun a U g mk q => by obtain ⟨q0, qP, qK, qS⟩ := q; exact ⟨q0, qP, va_K.moved (u := U) (U := U.calling g mk a) (Vm.Alike.refl U.vm) qK, xS_same qS rfl rfl⟩
theorem xk_preX {C : String} {T : u_T} {N ci sz0 : Nat} {sa : Nat → Nat} {fs : List Value} (hP : va_P D xcl ws H) (hK : va_K D xcl tys s) (hX : xS sz0 sa s) (hH : ∀ q : Nat, q < s.heap.size → q < sz0 → H[q]? = s.heap[q]?) (he : ws[0]? = some (b, .inr (ci, fs))) (hc : xcl[ci]? = some (C, T, N)) : PreV s H C b (xk_X (.ref b :: As) D tys ws sz0 sa) As := ⟨xk_blindX, va_recv (q := (C, T, N)) hK hP hc he, fun U hU hW => ⟨rfl, by rw [hU]; exact hP, va_K.moved hW.alike hK, xS_to hX hW (fun q h1 h2 => by rw [hU]; exact hH q h1 h2)⟩⟩
theorem xt_thr {cc : ByteArray} {Qc : Array Value → State → Outcome → State → Prop} (hexec : p.tables.exec = Jvm.exec) (hb : c.code = cc) (hl : l.stackTraces = false) {cls text : String} {ik is ic sa : Nat} {A : Nat → Prop}
    (hown : s.vm.findClass RX0 = some m.cls) (hcls : Bundle.fit cls = true) (hk : (Cond.classLink RX0 ik cls).before args s = true) (hini : (Cond.initialized cls).before args s = true) (hstr : vk_R RX0 is text sa s) (ht : ∀ w ∈ xT, w.before args s = true) (hN : ∀ w ∈ xN, va_Nw w s)
    (g1 : ∀ w ∈ (vx_atS RX0 ic cls xup).filter goodWord, w ∈ xT) (g2 : ∀ w ∈ (vx_atS RX0 ic cls xup).filter (fun w => !goodWord w), w ∈ xN) (g3 : ∀ w ∈ Cond.classLink RX0 ik cls :: Cond.initialized cls :: vx_atS RX0 ic cls xup, vx_ot w = true)
    (hU : vx_Zq Bundle.tN "UNASSIGNED_STACK" Bundle.steD A s s.heap) (hV : vx_Zq Bundle.tN "SUPPRESSED_SENTINEL" Bundle.listD A s s.heap) (hsize : ls.size = c.maxLocals)
    (d0 : decode cc pc = .ok (.new ik, 3)) (d3 : decode cc (pc + 3) = .ok (.dup, 1)) (d4 : decode cc (pc + 4) = .ok (.ldc is, 2)) (d6 : decode cc (pc + 6) = .ok (.invokespecial ic, 3)) (d9 : decode cc (pc + 9) = .ok (.athrow, 1))
    (hout : ∀ x ∈ c.exceptionTable.toList, False) (hRf : 5 < R.frames) (hRl : (rest.map fun v => v.category).sum + 82 ≤ R.locals) (hRc : cells + 1 ≤ R.cells) (hRs : slots + 6 ≤ R.slots) (hlocks : meth.locks = false) :
    W p l e R s m args below meth c s.heap [] cells slots (vx_MQ below Qc (xt_X cls) args s (cells + 1) (slots + 6) (fun _ => False)) (F0 m pc ls rest) :=
  vx_throwS (A := A) (names := xup) hexec hb hl hown hcls (by decide +kernel) hk hini hstr (vx_hat (fun w hw => ht w (g1 w hw)) g2 (fun w hw => va_Nw.use (xN_tab w hw) (hN w hw))) g3 hU hV va_S.rf hsize d0 d3 d4 d6 d9 (fun x hx => (hout x hx).elim) hRf hRl hRc hRs hlocks
    (fun t _ h1 h2 => ⟨(), trivial, rfl, h1, fun q hq _ => h2 q hq⟩) (fun _ h => by cases h) (Nat.le_refl _) (Nat.le_refl _)
end XX
