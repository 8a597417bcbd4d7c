/-! THE LAW: its end, what holds at its entry, its world, and rows for its calls -/
def lw_P (b : Addr) (xs : List Int32) (args : Array Value) (s : State) : Prop := args = #[.ref b] ∧ s.IntsAt b xs ∧ xs.length ≤ 1537 ∧ (Jvm.Cond.and given_1 narrow_1).before args s = true
def lw_Q (_ : Array Value) (s : State) (o : Outcome) (t : State) : Prop := o = .returned (some (.int 1)) ∧ Framed s o t [] 601024 7293000
def lw_Z (below : List Frame) (a : Array Value) (s : State) : State → Prop := fun t => ∃ o, t.status = .running ∧ Ended t below o ∧ lw_Q a s o t
/-- the law's own end, with 1 on the stack, nothing written that was there before, its room as the claim has it -/
theorem lw_ret {p : Program} {l : Launch} {e : Env} {s : State} {m : MethodId} {below : List Frame} {meth : Method} {c : Code} {b : Nat} (hx : p.tables.exec = Jvm.exec) (hb : c.code = code) (hr : meth.sig.returnType = ret) (hlocks : meth.locks = false) {pc : Nat} {H : Heap} {ls : Array Slot} (hdg : decode code pc = .ok (.ireturn, 1)) : W p l e room_1 s m #[Value.ref b] below meth c H [] 601024 7293000 (lw_Z below #[Value.ref b] s) (F0 m pc ls [.int 1]) := by
  intro T hT X
  obtain ⟨fs, hret, hrun, hended, hW, hframe⟩ := X.leave (v := some (.int 1)) (hlocks := hlocks) (fun h => by rw [hr] at h; cases h)
  have hmeth' : T.vm.method? m = some meth := X.method'
  refine ⟨T.setFrames fs, ?_, .returned (some (.int 1)), hrun, hended, rfl, ⟨_, rfl⟩, hW, hframe⟩
  jvm_step X.here [X.here.top, hx, hb, hdg, hmeth', hr, ret, narrow_b1]
  (try refine ⟨rfl, ?_⟩); (try refine ⟨rfl, ?_⟩)
  first | (intro acts; rw [hret _ acts rfl rfl rfl]) | rw [hret _ _ rfl rfl rfl]
  exact Steps.refl _
/-- what holds at the law's entry -/
def lw_At (p : Program) (s : State) (m : MethodId) (meth : Method) (c : Code) (b L : Nat) (xs : Nat → Int32) : Prop :=
  p.tables.exec = Jvm.exec ∧ c.code = code ∧ meth.sig.returnType = ret ∧ c.maxLocals = 7 ∧ s.vm.findClass RL = some m.cls ∧ (∀ w ∈ lw_tbl, w.before #[Value.ref b] s = true) ∧ va_X b L xs s s.heap ∧ b < s.heap.size ∧ meth.locks = false ∧ (Jvm.Cond.and given_1 narrow_1).before #[Value.ref b] s = true
/-- the cells of class, law and reference, in step -/
def xL_c (A : Nat → Nat) (K : Nat → ClassId) (n : Nat) (V TV TO : Nat → Bool) (AG OP NX : Nat → Nat) (TK : Nat) : va_W := xc_W A K n (xmk V) (xmk TV) AG (xzk TO OP) (xbk OP NX) TK
def xL_W (A : Nat → Nat) (K : Nat → ClassId) (n : Nat) (V TV TO : Nat → Bool) (AG OP NX : Nat → Nat) (TK ob : Nat) (kO : ClassId) (f : Nat → Int64) (A2 : Nat → Nat) (K2 : Nat → ClassId) (th : Nat) : va_W := (xc_W A K n (xmk V) (xmk TV) AG (xzk TO OP) (xbk OP NX) TK ++ xo_W ob kO f) ++ xm_W A2 K2 th n V TV TO AG OP NX TK
def xL_T (K : Nat → ClassId) (kO : ClassId) (K2 : Nat → ClassId) : List (ClassId × FieldType) := (xc_T K ++ [(kO, .long)]) ++ xm_T K2
def xL_S (s : State) (D : va_G) (ws : va_W) (H : Heap) (locs : List Loc) : Prop := va_P D xcl ws H ∧ va_D (fun q : Nat => s.heap.size ≤ q) ws ∧ va_S (fun q : Nat => s.heap.size ≤ q) s.heap H locs
def xL_C (p : Program) (l : Launch) (s : State) (m : MethodId) (meth : Method) (c : Code) (D : va_G) (b L : Nat) (xs : Nat → Int32) (K : Nat → ClassId) (kO : ClassId) (K2 : Nat → ClassId) (sa : Nat → Nat) : Prop :=
  lw_At p s m meth c b L xs ∧ va_K D xcl (xL_T K kO K2) s ∧ xS s.heap.size sa s ∧ l.stackTraces = false ∧ ∀ w ∈ xT, w.before #[Value.ref b] s = true
def xL_l (b o1 o2 ob i : Nat) : List (Nat × Value) := [(0, .ref b), (1, .ref o1), (2, .ref o2), (3, .ref ob), (4, .int (nI i))]
/-- behind a call of the script: T calls have gone by, and this one -/
def xL_K (p : Program) (l : Launch) (e : Env) (s : State) (m : MethodId) (below : List Frame) (meth : Method) (c : Code) (D : va_G) (b : Nat) (A : Nat → Nat) (K : Nat → ClassId) (A2 : Nat → Nat) (K2 : Nat → ClassId) (ob : Nat) (kO : ClassId) (n T i : Nat) : Prop :=
  ∀ (V TV TO : Nat → Bool) (AG OP NX : Nat → Nat) (TK th : Nat) (f : Nat → Int64) (H : Heap) (locs : List Loc) (ls : Array Slot), xI n V TV TO AG OP NX TK (T + 1) → xL_S s D (xL_W A K n V TV TO AG OP NX TK ob kO f A2 K2 th) H locs → lv_has ls 7 [(0, .ref b), (1, .ref (A 0)), (2, .ref (A2 0)), (3, .ref ob), (4, .int (nI i))] →
    W p l e room_1 s m #[Value.ref b] below meth c H locs (14 + (T + 1)) (4900 + 6 * (T + 1)) (lw_Z below #[Value.ref b] s) (F0 m 459 ls [])
theorem xl_cmp (x : Int64) : lg_cmp x x = 0 := by
  unfold lg_cmp
  rw [if_neg (show ¬ x > x from Int64.lt_irrefl), if_pos rfl]
theorem xl_last {L i : Nat} (hL : L ≤ 1537) (hi : i ≤ 2000) (h : ¬ nI L - 3 < nI i) : i + 3 ≤ L := by
  rcases Nat.lt_or_ge L 3 with q | q
  · exfalso
    have h3 : L = 0 ∨ L = 1 ∨ L = 2 := by omega
    refine h ?_
    have hp := nI_pos' (n := i) (by omega)
    have key : nI L - 3 < 0 := by rcases h3 with rfl | rfl | rfl <;> decide
    rw [Int32.lt_iff_toInt_lt] at key ⊢
    rw [Int32.le_iff_toInt_le] at hp
    omega
  · rw [show (3 : Int32) = nI 3 from rfl, pk_sub q] at h
    rcases Nat.lt_or_ge (L - 3) i with z | z
    · exact absurd (nI_lt z (by omega)) h
    · omega
theorem xl_out {y : Int32} (h : y < 0 ∨ nI 9 ≤ y) : y.toInt < 0 ∨ 8 < y.toInt := by
  rcases h with h | h
  · rw [Int32.lt_iff_toInt_lt] at h; exact Or.inl h
  · rw [Int32.le_iff_toInt_le] at h
    have : (nI 9).toInt = 9 := by decide
    omega
section XLC
variable {p : Program} {l : Launch} {e : Env} {R : Room} {s : State} {m : MethodId} {args : Array Value} {below : List Frame} {meth : Method} {c : Code} {H : Heap} {locs : List Loc} {cells slots mc ms : Nat} {Q : State → Prop}
variable {D : va_G} {ws ws' w1 w2 wr : va_W} {rest st0 : List Value} {pc : Nat} {ls : Array Slot} {post : Option Value → Prop} {a : Array Value}
theorem xl_L (hr : va_Run p l e R s m args below meth c H locs cells slots mc ms (F0 m pc ls st0) rest (xk_Q post D ws ws' a) (va_A ws H.size)) (hsame : ws.map (·.1) = ws'.map (·.1)) (hW : xL_S s D (ws ++ wr) H locs)
    (kk : ∀ (v : Option Value) (H1 : Heap) (locs1 : List Loc), post v → xL_S s D (ws' ++ wr) H1 locs1 → W p l e R s m args below meth c H1 locs1 (cells + mc) (slots + ms) Q (F0 m (pc + 3) ls (v.toList ++ rest))) : W p l e R s m args below meth c H locs cells slots Q (F0 m pc ls st0) :=
  xr_go hr hW.2.2 (xD_A (xD_l hW.2.1) hW.2.2 (fun _ h => h)) (fun v H1 locs1 h1 h2 _ h4 h5 => kk v H1 locs1 h1 ⟨h2.app (xP_keepR hW.2.1 (xP_r hW.1) h4), xD_same (ws := ws ++ wr) (by rw [List.map_append, List.map_append, hsame]) hW.2.1, h5⟩)
theorem xl_R (hr : va_Run p l e R s m args below meth c H locs cells slots mc ms (F0 m pc ls st0) rest (xk_Q post D ws ws' a) (va_A ws H.size)) (hsame : ws.map (·.1) = ws'.map (·.1)) (hW : xL_S s D (wr ++ ws) H locs)
    (kk : ∀ (v : Option Value) (H1 : Heap) (locs1 : List Loc), post v → xL_S s D (wr ++ ws') H1 locs1 → W p l e R s m args below meth c H1 locs1 (cells + mc) (slots + ms) Q (F0 m (pc + 3) ls (v.toList ++ rest))) : W p l e R s m args below meth c H locs cells slots Q (F0 m pc ls st0) :=
  xr_go hr hW.2.2 (xD_A (xD_r hW.2.1) hW.2.2 (fun _ h => h)) (fun v H1 locs1 h1 h2 _ h4 h5 => kk v H1 locs1 h1 ⟨(xP_keepL hW.2.1 (xP_l hW.1) h4).app h2, xD_same (ws := wr ++ ws) (by rw [List.map_append, List.map_append, hsame]) hW.2.1, h5⟩)
theorem xl_LL (hr : va_Run p l e R s m args below meth c H locs cells slots mc ms (F0 m pc ls st0) rest (xk_Q post D ws ws' a) (va_A ws H.size)) (hsame : ws.map (·.1) = ws'.map (·.1)) (hW : xL_S s D ((ws ++ w2) ++ wr) H locs)
    (kk : ∀ (v : Option Value) (H1 : Heap) (locs1 : List Loc), post v → xL_S s D ((ws' ++ w2) ++ wr) H1 locs1 → W p l e R s m args below meth c H1 locs1 (cells + mc) (slots + ms) Q (F0 m (pc + 3) ls (v.toList ++ rest))) : W p l e R s m args below meth c H locs cells slots Q (F0 m pc ls st0) :=
  xl_L hr hsame (wr := w2 ++ wr) (by rw [← List.append_assoc]; exact hW) (fun v H1 locs1 h1 h2 => kk v H1 locs1 h1 (by rw [List.append_assoc]; exact h2))
theorem xl_kept (hW : xL_S s D ws H locs) : ∀ q : Nat, q < s.heap.size → q < s.heap.size → H[q]? = s.heap[q]? := fun q h1 _ => hW.2.2.2.1 q h1 (Nat.not_le.mpr h1)
end XLC
