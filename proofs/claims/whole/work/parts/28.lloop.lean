/-! THE LAW'S LOOP -/
theorem xleast (P : Nat → Bool) : ∀ n, (∀ j, j < n → P j = false) ∨ ∃ o, o < n ∧ P o = true ∧ ∀ i, i < o → P i = false := by
  intro n
  induction n with
  | zero => exact Or.inl (fun j h => absurd h (by omega))
  | succ n ih =>
    rcases ih with h | ⟨o, h1, h2, h3⟩
    · cases e : P n with
      | false => exact Or.inl (fun j hj => (Nat.lt_or_ge j n).elim (h j) (fun z => (show n = j by omega) ▸ e))
      | true => exact Or.inr ⟨n, by omega, e, h⟩
    · exact Or.inr ⟨o, by omega, h2, h3⟩
section LAW2
variable {p : Program} {l : Launch} {e : Env} {s : State} {m : MethodId} {below : List Frame} {meth : Method} {c : Code} {D : va_G} {b L : Nat} {xs : Nat → Int32} {A A2 : Nat → Nat} {K K2 : Nat → ClassId} {ob : Nat} {kO : ClassId} {sa : Nat → Nat}
variable {n : Nat} {V TV TO : Nat → Bool} {AG OP NX : Nat → Nat} {TK T th i : Nat} {f : Nat → Int64} {H : Heap} {locs : List Loc} {ls : Array Slot}
theorem l_take (C : xL_C p l s m meth c D b L xs K kO K2 sa) (hT : T ≤ 600) (hi : i + 2 < L) (hL : L ≤ 1537) (hI : xI n V TV TO AG OP NX TK T) (hW : xL_S s D (xL_W A K n V TV TO AG OP NX TK ob kO f A2 K2 th) H locs) (hl : lv_has ls 7 [(0, .ref b), (1, .ref (A 0)), (2, .ref (A2 0)), (3, .ref ob), (4, .int (nI i))]) (kk : xL_K p l e s m below meth c D b A K A2 K2 ob kO n T i) : W p l e room_1 s m #[Value.ref b] below meth c H locs (14 + T) (4900 + 6 * T) (lw_Z below #[Value.ref b] s) (F0 m 100 ls []) := by
  rcases xp_ix (xs (nI (i + 1)).toNatClampNeg) (n := 6) (by decide) with ⟨q, hq, e1⟩ | ⟨-, hbad⟩
  · have hr := hI.2.2.1 q hq
    rcases Nat.lt_or_ge (NX q) 15 with hk | hk
    · exact l_take_stay C hT hi hL hI hW hl kk q _ _ hq e1 rfl rfl hr.1 hk
    · rcases xleast (fun j => xmfr V TV TO OP j) n with hf | ⟨o, ho, ho1, ho2⟩
      · exact l_take_full C hT hi hL hI hW hl kk q _ _ hq e1 rfl rfl hr.1 (by omega) hf
      · exact l_take_open C hT hi hL hI hW hl kk q _ _ hq e1 rfl rfl hr.1 (by omega) o ho ho1 ho2
  · exact l_take_bad C hT hi hL hI hW hl kk _ rfl hbad
theorem l_next (C : xL_C p l s m meth c D b L xs K kO K2 sa) (hT : T ≤ 600) (hi : i + 2 < L) (hL : L ≤ 1537) (hI : xI n V TV TO AG OP NX TK T) (hW : xL_S s D (xL_W A K n V TV TO AG OP NX TK ob kO f A2 K2 th) H locs) (hl : lv_has ls 7 [(0, .ref b), (1, .ref (A 0)), (2, .ref (A2 0)), (3, .ref ob), (4, .int (nI i))]) (kk : xL_K p l e s m below meth c D b A K A2 K2 ob kO n T i) : W p l e room_1 s m #[Value.ref b] below meth c H locs (14 + T) (4900 + 6 * T) (lw_Z below #[Value.ref b] s) (F0 m 156 ls []) := by
  rcases xp_ix (xs (nI (i + 1)).toNatClampNeg) (n := 6) (by decide) with ⟨q, hq, e1⟩ | ⟨-, hbad⟩
  · exact l_next_ok C hT hi hL hI hW hl kk q hq e1
  · exact l_next_bad C hT hi hL hI hW hl kk _ rfl hbad
theorem l_drop (C : xL_C p l s m meth c D b L xs K kO K2 sa) (hT : T ≤ 600) (hi : i + 2 < L) (hL : L ≤ 1537) (hI : xI n V TV TO AG OP NX TK T) (hW : xL_S s D (xL_W A K n V TV TO AG OP NX TK ob kO f A2 K2 th) H locs) (hl : lv_has ls 7 [(0, .ref b), (1, .ref (A 0)), (2, .ref (A2 0)), (3, .ref ob), (4, .int (nI i))]) (kk : xL_K p l e s m below meth c D b A K A2 K2 ob kO n T i) : W p l e room_1 s m #[Value.ref b] below meth c H locs (14 + T) (4900 + 6 * T) (lw_Z below #[Value.ref b] s) (F0 m 212 ls []) := by
  rcases xp_blk (xs (nI (i + 1)).toNatClampNeg) hI.2.1 with ⟨j, k, hj, hk, e1⟩ | ⟨-, hbad⟩
  · cases hs : V (16 * j + k) with
    | true => exact l_drop_ok C hT hi hL hI hW hl kk j k hj hk e1 hs
    | false => exact l_drop_no C hT hi hL hI hW hl kk j k hj hk e1 hs
  · exact l_drop_bad C hT hi hL hI hW hl kk _ rfl hbad
theorem l_isUsed (C : xL_C p l s m meth c D b L xs K kO K2 sa) (hT : T ≤ 600) (hi : i + 2 < L) (hL : L ≤ 1537) (hI : xI n V TV TO AG OP NX TK T) (hW : xL_S s D (xL_W A K n V TV TO AG OP NX TK ob kO f A2 K2 th) H locs) (hl : lv_has ls 7 [(0, .ref b), (1, .ref (A 0)), (2, .ref (A2 0)), (3, .ref ob), (4, .int (nI i))]) (kk : xL_K p l e s m below meth c D b A K A2 K2 ob kO n T i) : W p l e room_1 s m #[Value.ref b] below meth c H locs (14 + T) (4900 + 6 * T) (lw_Z below #[Value.ref b] s) (F0 m 248 ls []) := by
  rcases xp_blk (xs (nI (i + 1)).toNatClampNeg) hI.2.1 with ⟨j, k, hj, hk, e1⟩ | ⟨-, hbad⟩
  · exact l_isUsed_ok C hT hi hL hI hW hl kk j k hj hk e1
  · exact l_isUsed_bad C hT hi hL hI hW hl kk _ rfl hbad
theorem l_look (C : xL_C p l s m meth c D b L xs K kO K2 sa) (hT : T ≤ 600) (hi : i + 2 < L) (hL : L ≤ 1537) (hI : xI n V TV TO AG OP NX TK T) (hW : xL_S s D (xL_W A K n V TV TO AG OP NX TK ob kO f A2 K2 th) H locs) (hl : lv_has ls 7 [(0, .ref b), (1, .ref (A 0)), (2, .ref (A2 0)), (3, .ref ob), (4, .int (nI i))]) (kk : xL_K p l e s m below meth c D b A K A2 K2 ob kO n T i) : W p l e room_1 s m #[Value.ref b] below meth c H locs (14 + T) (4900 + 6 * T) (lw_Z below #[Value.ref b] s) (F0 m 391 ls []) := by
  have hn := hI.2.1
  rcases xp_ix (xs (nI (i + 1)).toNatClampNeg) (n := n) (by omega) with ⟨j, hj, e1⟩ | ⟨-, hbad⟩
  · rcases xp_ix (xs (nI (i + 2)).toNatClampNeg) (n := 4) (by decide) with ⟨v, hv, e2⟩ | ⟨-, hbad⟩
    · exact l_look_ok C hT hi hL hI hW hl kk j v hj hv e1 e2
    · exact l_look_badW C hT hi hL hI hW hl kk j hj e1 _ rfl hbad
  · exact l_look_badS C hT hi hL hI hW hl kk _ rfl _ rfl hbad
end LAW2
set_option maxHeartbeats 4000000 in
set_option maxRecDepth 100000 in
theorem law_loop {p : Program} {l : Launch} {e : Env} {s : State} {m : MethodId} {below : List Frame} {meth : Method} {c : Code} {D : va_G} {b L : Nat} {xs : Nat → Int32} {A A2 : Nat → Nat} {K K2 : Nat → ClassId} {ob : Nat} {kO : ClassId} {sa : Nat → Nat} {n : Nat} (hL : L ≤ 1537) (C : xL_C p l s m meth c D b L xs K kO K2 sa) :
    ∀ (g T : Nat), 3 * T ≤ L → L < 3 * (T + g) → ∀ (V TV TO : Nat → Bool) (AG OP NX : Nat → Nat) (TK th : Nat) (f : Nat → Int64) (H : Heap) (locs : List Loc) (ls : Array Slot), xI n V TV TO AG OP NX TK T → xL_S s D (xL_W A K n V TV TO AG OP NX TK ob kO f A2 K2 th) H locs → lv_has ls 7 [(0, .ref b), (1, .ref (A 0)), (2, .ref (A2 0)), (3, .ref ob), (4, .int (nI (1 + 3 * T)))] →
      W p l e room_1 s m #[Value.ref b] below meth c H locs (14 + T) (4900 + 6 * T) (lw_Z below #[Value.ref b] s) (F0 m 33 ls []) := by
  obtain ⟨⟨hx, hb, hr, hml, hown, hts, hX, hbl, hlocks, hgv⟩, hK, hXS, hl0, ht⟩ := id C
  have hbA : ¬ (fun q : Nat => s.heap.size ≤ q) b := Nat.not_le.mpr hbl
  intro g
  induction g with
  | zero => intro T h1 h2; exact absurd h2 (by omega)
  | succ g ih =>
    intro T hT hg V TV TO AG OP NX TK th f H locs ls hI hW hl
    refine lv_iload hx hb dL_law_33 (lv_at hl 4 rfl) ?_
    refine lv_aload_n hx hb dL_law_35 rfl (lv_at hl 0 rfl) ?_
    refine va_slen hx hb hX hbl hbA hW.2.2 dL_law_36 ?_
    refine lv_iconst (v := 3) hx hb dL_law_37 (by decide) ?_
    refine lv_isub hx hb dL_law_38 ?_
    refine lv_icmp_gt (tgt := 465) hx hb dL_law_39 (by decide) (fun h1 => ?_) (fun h1 => ?_)
    · refine lv_iconst (v := 1) hx hb dL_law_465 (by decide) ?_
      refine va_forget (fun q hq => hW.2.2.2.2 q hq) ?_
      refine W.widen (k := 601024) (n := 7293000) (by omega) (by omega) ?_
      exact lw_ret hx hb hr hlocks dL_law_466
    · have hi3 : 1 + 3 * T + 3 ≤ L := xl_last hL (by omega) h1
      refine lv_aload_n hx hb dL_law_42 rfl (lv_at hl 0 rfl) ?_
      refine lv_iload hx hb dL_law_43 (lv_at hl 4 rfl) ?_
      refine va_sld hx hb hX hbl hbA hW.2.2 (vp_in_nI (by omega) (by omega)) dL_law_45 ?_
      refine lv_bipush (v := 15) hx hb dL_law_46 (by decide) ?_
      refine lv_iand hx hb dL_law_48 ?_
      have kk : xL_K p l e s m below meth c D b A K A2 K2 ob kO n T (1 + 3 * T) := by
        intro V TV TO AG OP NX TK th f H locs ls hI hW hl
        refine lv_iinc (v := nI (1 + 3 * (T + 1))) (lv' := [(4, .int (nI (1 + 3 * (T + 1)))), (0, .ref b), (1, .ref (A 0)), (2, .ref (A2 0)), (3, .ref ob)]) hx hb dL_law_459 hl (k := 4) rfl (nI_add (1 + 3 * T) 3) (by decide) rfl (fun ls hl => ?_)
        refine lv_goto (tgt := 33) hx hb dL_law_462 (by decide) ?_
        exact ih (T + 1) (by omega) (by omega) V TV TO AG OP NX TK th f H locs ls hI hW (lv_sub hl [1, 2, 3, 4, 0] rfl)
      refine lv_topi (fun y ey => ?_)
      rcases xp_ix y (n := 9) (by decide) with ⟨j, hj, ej⟩ | ⟨hout, -⟩
      · subst ej
        rcases (show j = 0 ∨ j = 1 ∨ j = 2 ∨ j = 3 ∨ j = 4 ∨ j = 5 ∨ j = 6 ∨ j = 7 ∨ j = 8 by omega) with rfl | rfl | rfl | rfl | rfl | rfl | rfl | rfl | rfl
        · refine lv_tableIn (tgt := 100) (off := 51) hx hb dL_law_49 (by decide) (by decide) rfl (by decide) ?_
          exact l_take C (by omega) (by omega) hL hI hW hl kk
        · refine lv_tableIn (tgt := 156) (off := 107) hx hb dL_law_49 (by decide) (by decide) rfl (by decide) ?_
          exact l_next C (by omega) (by omega) hL hI hW hl kk
        · refine lv_tableIn (tgt := 212) (off := 163) hx hb dL_law_49 (by decide) (by decide) rfl (by decide) ?_
          exact l_drop C (by omega) (by omega) hL hI hW hl kk
        · refine lv_tableIn (tgt := 248) (off := 199) hx hb dL_law_49 (by decide) (by decide) rfl (by decide) ?_
          exact l_isUsed C (by omega) (by omega) hL hI hW hl kk
        · refine lv_tableIn (tgt := 311) (off := 262) hx hb dL_law_49 (by decide) (by decide) rfl (by decide) ?_
          exact l_checkpoint C (by omega) (by omega) hL hI hW hl kk
        · refine lv_tableIn (tgt := 324) (off := 275) hx hb dL_law_49 (by decide) (by decide) rfl (by decide) ?_
          exact l_free C (by omega) (by omega) hL hI hW hl kk
        · refine lv_tableIn (tgt := 337) (off := 288) hx hb dL_law_49 (by decide) (by decide) rfl (by decide) ?_
          exact l_used C (by omega) (by omega) hL hI hW hl kk
        · refine lv_tableIn (tgt := 350) (off := 301) hx hb dL_law_49 (by decide) (by decide) rfl (by decide) ?_
          exact l_victim C (by omega) (by omega) hL hI hW hl kk
        · refine lv_tableIn (tgt := 391) (off := 342) hx hb dL_law_49 (by decide) (by decide) rfl (by decide) ?_
          exact l_look C (by omega) (by omega) hL hI hW hl kk
      · refine lv_tableOut (tgt := 459) hx hb dL_law_49 (xl_out hout) (by decide) ?_
        refine W.widen (k := 14 + (T + 1)) (n := 4900 + 6 * (T + 1)) (by omega) (by omega) ?_
        exact kk _ _ _ _ _ _ _ _ _ _ _ ls hI.more hW hl
