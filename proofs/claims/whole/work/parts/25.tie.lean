/-! THE CLASS BESIDE THE REFERENCE: masks of bits, free segments, victims, updates -/
def xmk (V : Nat → Bool) (j : Nat) : Nat := xhc (fun k => V (16 * j + k)) 16
theorem xhc_lt (f : Nat → Bool) (i : Nat) : xhc f i < 2 ^ i := by
  induction i with
  | zero => exact Nat.one_pos
  | succ i ih =>
    rw [xhc, Nat.pow_succ]
    have : (f (15 - i)).toNat ≤ 1 := by cases f (15 - i) <;> decide
    omega
theorem xhc_bit (f : Nat → Bool) : ∀ i, i ≤ 16 → ∀ k, (xhc f i).testBit k = (decide (k < i) && f (16 - i + k)) := by
  intro i
  induction i with
  | zero => intro _ k; simp [xhc]
  | succ i ih =>
    intro hi k
    have hb : (f (15 - i)).toNat ≤ 1 := by cases f (15 - i) <;> decide
    cases k with
    | zero =>
      rw [xhc, Nat.testBit_zero]
      rw [show 16 - (i + 1) + 0 = 15 - i by omega]
      cases f (15 - i) <;> simp
    | succ k =>
      rw [xhc, Nat.testBit_succ, show (2 * xhc f i + (f (15 - i)).toNat) / 2 = xhc f i by omega, ih (by omega) k]
      rw [show 16 - (i + 1) + (k + 1) = 16 - i + k by omega]
      simp
theorem xmk_lt (V : Nat → Bool) (j : Nat) : xmk V j < 65536 := xhc_lt _ 16
theorem xmk_bit (V : Nat → Bool) (j k : Nat) : (xmk V j).testBit k = (decide (k < 16) && V (16 * j + k)) := by
  rw [xmk, xhc_bit _ 16 (Nat.le_refl _) k, show 16 - 16 + k = k by omega]
theorem xmk_bit' (V : Nat → Bool) (j k : Nat) (hk : k < 16) : (xmk V j).testBit k = V (16 * j + k) := by rw [xmk_bit]; simp [hk]
theorem xmk_pc (V : Nat → Bool) (j : Nat) : xpc (xmk V j) = xmu V j := xcnt_congr 16 (fun k hk => by rw [xmk_bit' V j k hk])
theorem xmk_0 (V : Nat → Bool) (j : Nat) : xmk V j = 0 ↔ ∀ k, k < 16 → V (16 * j + k) = false := by
  constructor
  · intro h k hk
    rw [← xmk_bit' V j k hk, h, Nat.zero_testBit]
  · intro h
    apply Nat.eq_of_testBit_eq
    intro k
    rw [xmk_bit, Nat.zero_testBit]
    by_cases hk : k < 16
    · rw [h k hk]; simp
    · simp [hk]
theorem xmf_iff (V TV : Nat → Bool) (t : Bool) (j : Nat) : ∀ i, xmf V TV t j i = true ↔ t = false ∧ ∀ k, k < i → V (16 * j + k) = false ∧ TV (16 * j + k) = false := by
  intro i
  induction i with
  | zero => simp [xmf]
  | succ i ih =>
    rw [xmf, Bool.and_eq_true, ih]
    constructor
    · rintro ⟨⟨h1, h2⟩, h3⟩
      refine ⟨h1, fun k hk => ?_⟩
      rcases Nat.lt_or_ge k i with q | q
      · exact h2 k q
      · have : k = i := by omega
        subst this
        simpa using h3
    · rintro ⟨h1, h2⟩
      refine ⟨⟨h1, fun k hk => h2 k (by omega)⟩, ?_⟩
      simpa using h2 i (by omega)
theorem xfr_tie (V TV : Nat → Bool) (Z : Nat → Bool) (TO : Nat → Bool) (OP : Nat → Nat) (j : Nat) (hz : Z j = xtk TO OP j 6) : xfr (xmk V) (xmk TV) Z j = xmfr V TV TO OP j := by
  rw [Bool.eq_iff_iff, xmfr, xmf_iff, ← hz]
  simp only [xfr, Bool.and_eq_true, beq_iff_eq, Bool.not_eq_true', xmk_0]
  constructor
  · rintro ⟨h1, h2, h3⟩
    exact ⟨h3, fun k hk => ⟨h1 k hk, h2 k hk⟩⟩
  · rintro ⟨h1, h2⟩
    exact ⟨fun k hk => (h2 k hk).1, fun k hk => (h2 k hk).2, h1⟩
theorem xcand_tie (V : Nat → Bool) (TO : Nat → Bool) (OP : Nat → Nat) : xcand (xmk V) (fun j => xtk TO OP j 6) = xmc V TO OP := by
  funext j
  simp only [xcand, xmc, xmk_pc]
theorem xwo_tie (g : Bool) (V : Nat → Bool) (AG : Nat → Nat) (TK : Nat) : xwo g (xmk V) AG TK = xmw g V AG TK := by
  funext j
  simp only [xwo, xmw, xmk_pc]
theorem xdiv16 {j k j' k' : Nat} (hk : k < 16) (hk' : k' < 16) : 16 * j' + k' = 16 * j + k ↔ j' = j ∧ k' = k := by omega
theorem xmk_set (V : Nat → Bool) (j k : Nat) (hk : k < 16) : va_up (xmk V) j (xmk V j ||| 2 ^ k) = xmk (va_up V (16 * j + k) true) := by
  funext i
  apply Nat.eq_of_testBit_eq
  intro b
  rw [xmk_bit]
  by_cases hb : b < 16
  · by_cases hi : i = j
    · subst hi
      by_cases hbk : b = k
      · subst hbk; simp [va_up, hb, Nat.testBit_or, Nat.testBit_two_pow]
      · have h1 : ¬ 16 * i + b = 16 * i + k := by omega
        have h2 : ¬ k = b := fun h => hbk h.symm
        simp [va_up, hb, Nat.testBit_or, Nat.testBit_two_pow, xmk_bit, h2, hbk]
    · have h1 : ¬ 16 * i + b = 16 * j + k := by omega
      simp [va_up, hi, h1, xmk_bit]
  · have hkb : ¬ k = b := by omega
    by_cases hi : i = j
    · subst hi; simp [va_up, hb, Nat.testBit_or, Nat.testBit_two_pow, xmk_bit, hkb]
    · simp [va_up, hb, hi, xmk_bit]
theorem x65535 : ∀ b, b < 16 → Nat.testBit 65535 b = true := by decide
theorem xmk_clr (V : Nat → Bool) (j k : Nat) (hk : k < 16) : va_up (xmk V) j (xmk V j &&& (65535 ^^^ 2 ^ k)) = xmk (va_up V (16 * j + k) false) := by
  funext i
  apply Nat.eq_of_testBit_eq
  intro b
  rw [xmk_bit]
  by_cases hb : b < 16
  · by_cases hi : i = j
    · subst hi
      by_cases hbk : b = k
      · subst hbk; simp [va_up, hb, Nat.testBit_and, Nat.testBit_xor, Nat.testBit_two_pow, x65535 b hb]
      · have h1 : ¬ 16 * i + b = 16 * i + k := by omega
        have h2 : ¬ k = b := fun h => hbk h.symm
        simp [va_up, hb, Nat.testBit_and, Nat.testBit_xor, Nat.testBit_two_pow, x65535 b hb, xmk_bit, h2, hbk]
    · have h1 : ¬ 16 * i + b = 16 * j + k := by omega
      simp [va_up, hi, h1, xmk_bit]
  · by_cases hi : i = j
    · subst hi; simp [va_up, hb, Nat.testBit_and, xmk_bit]
    · simp [va_up, hb, hi, xmk_bit]
/-- the class's taken segments -/
def xzk (TO : Nat → Bool) (OP : Nat → Nat) (j : Nat) : Bool := xtk TO OP j 6
/-- the class's next blocks -/
def xbk (OP NX : Nat → Nat) (q : Nat) : Nat := if q < 6 then 96 + 16 * OP q + NX q else 0
theorem xtk_iff (TO : Nat → Bool) (OP : Nat → Nat) (j : Nat) : ∀ i, xtk TO OP j i = true ↔ TO j = true ∨ ∃ q, q < i ∧ OP q = j := by
  intro i
  induction i with
  | zero => simp [xtk]
  | succ i ih =>
    rw [xtk, Bool.or_eq_true, ih, beq_iff_eq]
    constructor
    · rintro ((h | ⟨q, h1, h2⟩) | h)
      · exact Or.inl h
      · exact Or.inr ⟨q, by omega, h2⟩
      · exact Or.inr ⟨i, by omega, h⟩
    · rintro (h | ⟨q, h1, h2⟩)
      · exact Or.inl (Or.inl h)
      · rcases Nat.lt_or_ge q i with z | z
        · exact Or.inl (Or.inr ⟨q, z, h2⟩)
        · have : q = i := by omega
          subst this; exact Or.inr h2
theorem xzk_iff (TO : Nat → Bool) (OP : Nat → Nat) (j : Nat) : xzk TO OP j = true ↔ TO j = true ∨ ∃ q, q < 6 ∧ OP q = j := xtk_iff TO OP j 6
theorem xzk_stay (TO : Nat → Bool) (OP : Nat → Nat) (j : Nat) : va_up (xzk TO OP) j true = xzk (va_up TO j true) OP := by
  funext i
  rw [Bool.eq_iff_iff, xzk_iff]
  by_cases h : i = j
  · subst h; simp [va_up]
  · simp [va_up, h, xzk_iff]
theorem xzk_open (TO : Nat → Bool) (OP : Nat → Nat) (q j o : Nat) (hq : q < 6) (hO : OP q = j) : va_up (xzk TO OP) o true = xzk (va_up (va_up TO j true) o true) (va_up OP q o) := by
  funext i
  rw [Bool.eq_iff_iff, xzk_iff]
  by_cases h : i = o
  · subst h; simp [va_up]
  · by_cases h2 : i = j
    · subst h2
      have : xzk TO OP i = true := (xzk_iff TO OP i).mpr (Or.inr ⟨q, hq, hO⟩)
      simp [va_up, h, this]
    · simp only [va_up, h, h2, if_false, xzk_iff]
      constructor
      · rintro (z | ⟨r, z1, z2⟩)
        · exact Or.inl z
        · refine Or.inr ⟨r, z1, ?_⟩
          have : ¬ r = q := fun e => h2 (by rw [← z2, e, hO])
          rw [if_neg this]; exact z2
      · rintro (z | ⟨r, z1, z2⟩)
        · exact Or.inl z
        · refine Or.inr ⟨r, z1, ?_⟩
          by_cases e : r = q
          · rw [if_pos e] at z2; exact absurd z2.symm h
          · rw [if_neg e] at z2; exact z2
theorem xop_iff (OP : Nat → Nat) (j : Nat) : ∀ i, xop OP i j = true ↔ ∃ q, q < i ∧ OP q = j := by
  intro i
  induction i with
  | zero => simp [xop]
  | succ i ih =>
    rw [xop]
    by_cases h : j = OP i
    · simp only [va_up, h, if_true, true_iff]; exact ⟨i, by omega, rfl⟩
    · simp only [va_up, h, if_false, ih]
      constructor
      · rintro ⟨q, z1, z2⟩; exact ⟨q, by omega, z2⟩
      · rintro ⟨q, z1, z2⟩
        rcases Nat.lt_or_ge q i with z | z
        · exact ⟨q, z, z2⟩
        · have : q = i := by omega
          subst this; exact absurd z2.symm h
theorem xzk_op (OP : Nat → Nat) : xop OP 6 = xzk (fun _ => false) OP := by
  funext j
  rw [Bool.eq_iff_iff, xzk_iff, xop_iff]
  simp
theorem xbk_stay (OP NX : Nat → Nat) (q j k : Nat) (hq : q < 6) (hO : OP q = j) : va_up (xbk OP NX) q (96 + 16 * j + (k + 1)) = xbk OP (va_up NX q (k + 1)) := by
  funext i
  by_cases h : i = q
  · subst h; simp [va_up, xbk, hq, hO]
  · simp [va_up, xbk, h]
theorem xbk_open (OP NX : Nat → Nat) (q k o : Nat) (hq : q < 6) : va_up (xbk OP NX) q (96 + 16 * o + 0) = xbk (va_up OP q o) (va_up (va_up NX q (k + 1)) q 0) := by
  funext i
  by_cases h : i = q
  · subst h; simp [va_up, xbk, hq]
  · simp [va_up, xbk, h]
theorem xZ0_iff (j : Nat) : ∀ i, xZ0 i j = true ↔ j < i := by
  intro i
  induction i with
  | zero => simp [xZ0]
  | succ i ih =>
    rw [xZ0]
    by_cases h : j = i
    · simp [va_up, h]
    · simp only [va_up, h, if_false, ih]; omega
theorem xO0_eq (q : Nat) : ∀ i, q < i → xO0 i q = q := by
  intro i
  induction i with
  | zero => intro h; omega
  | succ i ih =>
    intro h
    rw [xO0]
    by_cases e : q = i
    · simp [va_up, e]
    · simp only [va_up, e, if_false]; exact ih (by omega)
theorem xB0_eq (q : Nat) : ∀ i, xB0 i q = if q < i then 96 + 16 * q else 0 := by
  intro i
  induction i with
  | zero => simp [xB0]
  | succ i ih =>
    rw [xB0]
    by_cases e : q = i
    · simp [va_up, e]
    · simp only [va_up, e, if_false, ih]
      by_cases z : q < i
      · rw [if_pos z, if_pos (by omega)]
      · rw [if_neg z, if_neg (by omega)]
theorem xZ0_tie : xZ0 6 = xzk (fun _ => false) (xO0 6) := by
  funext j
  rw [Bool.eq_iff_iff, xZ0_iff, xzk_iff]
  constructor
  · intro h; exact Or.inr ⟨j, h, xO0_eq j 6 h⟩
  · rintro (h | ⟨q, h1, h2⟩)
    · cases h
    · rw [xO0_eq q 6 h1] at h2; omega
theorem xB0_tie : xB0 6 = xbk (xO0 6) (fun _ => 0) := by
  funext q
  rw [xB0_eq, xbk]
  by_cases h : q < 6
  · rw [if_pos h, if_pos h, xO0_eq q 6 h, Nat.add_zero]
  · rw [if_neg h, if_neg h]
theorem xmk_none : (fun _ => 0 : Nat → Nat) = xmk (fun _ => false) := by
  funext j
  exact ((xmk_0 _ j).mpr (fun _ _ => rfl)).symm
/-- what holds of class and reference between two calls, T calls having gone by -/
def xI (n : Nat) (V TV TO : Nat → Bool) (AG OP NX : Nat → Nat) (TK T : Nat) : Prop :=
  12 ≤ n ∧ n ≤ 128 ∧ (∀ q, q < 6 → OP q < n ∧ NX q < 16) ∧ (∀ i, 16 * n ≤ i → V i = false ∧ TV i = false) ∧ (∀ j, n ≤ j → TO j = false) ∧ (∀ j, AG j ≤ TK) ∧ TK ≤ T
theorem xI_0 {n : Nat} (h : 12 ≤ n ∧ n ≤ 128) : xI n (fun _ => false) (fun _ => false) (fun _ => false) (fun _ => 0) (xO0 6) (fun _ => 0) 0 0 :=
  ⟨h.1, h.2, fun q hq => ⟨by rw [xO0_eq q 6 hq]; omega, show 0 < 16 by decide⟩, fun _ _ => ⟨rfl, rfl⟩, fun _ _ => rfl, fun _ => Nat.le_refl _, Nat.le_refl _⟩
section XI
variable {n : Nat} {V TV TO : Nat → Bool} {AG OP NX : Nat → Nat} {TK T : Nat}
theorem xI.more (h : xI n V TV TO AG OP NX TK T) : xI n V TV TO AG OP NX TK (T + 1) := ⟨h.1, h.2.1, h.2.2.1, h.2.2.2.1, h.2.2.2.2.1, h.2.2.2.2.2.1, Nat.le_succ_of_le h.2.2.2.2.2.2⟩
theorem xI.op (h : xI n V TV TO AG OP NX TK T) : ∀ q, q < 6 → OP q < 128 := fun q hq => Nat.lt_of_lt_of_le (h.2.2.1 q hq).1 h.2.1
theorem xI.drop (h : xI n V TV TO AG OP NX TK T) (i : Nat) : xI n (va_up V i false) TV TO AG OP NX TK (T + 1) := ⟨h.1, h.2.1, h.2.2.1, fun q hq => ⟨by simp only [va_up]; split; rfl; exact (h.2.2.2.1 q hq).1, (h.2.2.2.1 q hq).2⟩, h.2.2.2.2.1, h.2.2.2.2.2.1, Nat.le_succ_of_le h.2.2.2.2.2.2⟩
theorem xI.check (h : xI n V TV TO AG OP NX TK T) : xI n V V (fun _ => false) AG OP NX TK (T + 1) := ⟨h.1, h.2.1, h.2.2.1, fun q hq => ⟨(h.2.2.2.1 q hq).1, (h.2.2.2.1 q hq).1⟩, fun _ _ => rfl, h.2.2.2.2.2.1, Nat.le_succ_of_le h.2.2.2.2.2.2⟩
theorem xI.age (h : xI n V TV TO AG OP NX TK T) (j : Nat) : ∀ i, va_up AG j (TK + 1) i ≤ TK + 1 := fun i => by simp only [va_up]; split; exact Nat.le_refl _; exact Nat.le_succ_of_le (h.2.2.2.2.2.1 i)
theorem xI.stay (h : xI n V TV TO AG OP NX TK T) {q j k : Nat} (hj : j < n) (hk : k < 15) : xI n (va_up V (16 * j + k) true) TV (va_up TO j true) (va_up AG j (TK + 1)) OP (va_up NX q (k + 1)) (TK + 1) (T + 1) :=
  ⟨h.1, h.2.1, fun r hr => ⟨(h.2.2.1 r hr).1, by simp only [va_up]; split; omega; exact (h.2.2.1 r hr).2⟩,
   fun i hi => ⟨by rw [va_up, if_neg (by omega)]; exact (h.2.2.2.1 i hi).1, (h.2.2.2.1 i hi).2⟩,
   fun i hi => by rw [va_up, if_neg (by omega)]; exact h.2.2.2.2.1 i hi, h.age j, Nat.succ_le_succ h.2.2.2.2.2.2⟩
theorem xI.fresh (h : xI n V TV TO AG OP NX TK T) {q j k o : Nat} (hj : j < n) (hk : k < 16) (ho : o < n) : xI n (va_up V (16 * j + k) true) TV (va_up (va_up TO j true) o true) (va_up AG j (TK + 1)) (va_up OP q o) (va_up (va_up NX q (k + 1)) q 0) (TK + 1) (T + 1) :=
  ⟨h.1, h.2.1, fun r hr => ⟨by simp only [va_up]; split; exact ho; exact (h.2.2.1 r hr).1, by simp only [va_up]; split; decide; exact (h.2.2.1 r hr).2⟩,
   fun i hi => ⟨by rw [va_up, if_neg (by omega)]; exact (h.2.2.2.1 i hi).1, (h.2.2.2.1 i hi).2⟩,
   fun i hi => by rw [va_up, if_neg (by omega), va_up, if_neg (by omega)]; exact h.2.2.2.2.1 i hi, h.age j, Nat.succ_le_succ h.2.2.2.2.2.2⟩
theorem xI.far (h : xI n V TV TO AG OP NX TK T) : ∀ j, n ≤ j → xmk TV j = xmk V j ∧ xzk TO OP j = false := fun j hj =>
  ⟨by rw [(xmk_0 TV j).mpr (fun k hk => (h.2.2.2.1 _ (by omega)).2), (xmk_0 V j).mpr (fun k hk => (h.2.2.2.1 _ (by omega)).1)], by
    cases e : xzk TO OP j with
    | false => rfl
    | true =>
      rcases (xzk_iff TO OP j).mp e with z | ⟨q, z1, z2⟩
      · rw [h.2.2.2.2.1 j hj] at z; cases z
      · have := (h.2.2.1 q z1).1; omega⟩
theorem xI.farV (h : xI n V TV TO AG OP NX TK T) : ∀ i, 2048 ≤ i → TV i = V i := fun i hi => by have h1 := h.2.2.2.1 i (by have := h.2.1; omega); rw [h1.1, h1.2]
theorem xI.farT (h : xI n V TV TO AG OP NX TK T) : ∀ j, 128 ≤ j → TO j = false := fun j hj => h.2.2.2.2.1 j (by have := h.2.1; omega)
theorem xI.blk (h : xI n V TV TO AG OP NX TK T) : ∀ q, q < 6 → xbk OP NX q = 96 + 16 * OP q + NX q ∧ OP q < n ∧ NX q < 16 := fun q hq => ⟨by rw [xbk, if_pos hq], h.2.2.1 q hq⟩
end XI
theorem xfr_t (V TV TO : Nat → Bool) (OP : Nat → Nat) (j : Nat) : xfr (xmk V) (xmk TV) (xzk TO OP) j = xmfr V TV TO OP j := xfr_tie V TV (xzk TO OP) TO OP j rfl
theorem xcnt_fr (V TV TO : Nat → Bool) (OP : Nat → Nat) (n : Nat) : xcnt (fun j => (xfr (xmk V) (xmk TV) (xzk TO OP) j).toNat) n = xcnt (fun j => (xmfr V TV TO OP j).toNat) n := xcnt_congr n (fun j _ => by rw [xfr_t])
theorem xcnt_mu (V : Nat → Bool) (n : Nat) : xcnt (fun j => xpc (xmk V j)) n = xcnt (fun j => xmu V j) n := xcnt_congr n (fun j _ => xmk_pc V j)
theorem xvic_tie (g : Bool) (V TO : Nat → Bool) (AG OP : Nat → Nat) (TK n : Nat) : xvic (xcand (xmk V) (xzk TO OP)) (xwo g (xmk V) AG TK) n = xvic (xmc V TO OP) (xmw g V AG TK) n := by
  rw [show xcand (xmk V) (xzk TO OP) = xmc V TO OP from xcand_tie V TO OP, xwo_tie]
theorem xlk_tie (V TV TO : Nat → Bool) (AG OP : Nat → Nat) (j v : Nat) : xlk (xmk V) (xmk TV) AG (xzk TO OP) j v = xml V TV TO AG OP j v := by
  match v with
  | 0 => rfl
  | 1 => rfl
  | 2 => rfl
  | _ + 3 => rfl
