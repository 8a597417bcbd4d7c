theorem xand (a b : Nat) : nI a &&& nI b = nI (a &&& b) := by
  apply Int32.toBitVec_inj.mp
  rw [Int32.toBitVec_and]
  show BitVec.ofNat 32 a &&& BitVec.ofNat 32 b = BitVec.ofNat 32 (a &&& b)
  simp
theorem xor' (a b : Nat) : nI a ||| nI b = nI (a ||| b) := by
  apply Int32.toBitVec_inj.mp
  rw [Int32.toBitVec_or]
  show BitVec.ofNat 32 a ||| BitVec.ofNat 32 b = BitVec.ofNat 32 (a ||| b)
  simp
theorem xg1_lt {M : Nat} (h : M < 65536) : xg1 M < 65536 := by unfold xg1; omega
theorem xg2_lt {M : Nat} (h : M < 65536) : xg2 M < 200000 := by
  have h1 := xg1_lt h
  have h2 : xg1 M &&& 858993459 ≤ xg1 M := Nat.and_le_left
  have h3 : xg1 M / 4 &&& 858993459 ≤ xg1 M / 4 := Nat.and_le_left
  unfold xg2; omega
theorem xg3_lt {M : Nat} (h : M < 65536) : xg3 M < 400000 := by
  have h1 := xg2_lt h
  have h2 : (xg2 M + xg2 M / 16) &&& 252645135 ≤ xg2 M + xg2 M / 16 := Nat.and_le_left
  unfold xg3; omega
theorem xg4_lt {M : Nat} (h : M < 65536) : xg4 M < 800000 := by have h1 := xg3_lt h; unfold xg4; omega
theorem xg5_lt {M : Nat} (h : M < 65536) : xg5 M < 1600000 := by have h1 := xg4_lt h; unfold xg5; omega
/-- a segment is free -/
def xfr (U TH : Nat → Nat) (Z : Nat → Bool) (j : Nat) : Bool := U j == 0 && (TH j == 0 && !Z j)
theorem nI_0iff {M : Nat} (h : M < 65536) : nI M = 0 ↔ M = 0 := by
  constructor
  · intro q
    rcases Nat.eq_zero_or_pos M with z | z
    · exact z
    · exact absurd q (nI_ne0 z (by omega))
  · rintro rfl; rfl
/-- the victim: over the first i segments -/
def xvic (cand : Nat → Bool) (wo : Nat → Nat) : Nat → Option (Nat × Nat)
  | 0 => none
  | i + 1 => match xvic cand wo i with
    | none => if cand i then some (i, wo i) else none
    | some q => if cand i && decide (q.2 < wo i) then some (i, wo i) else some q
def xvR (q : Option (Nat × Nat)) : Int32 := match q with
  | none => -1
  | some q => nI q.1
def xcand (U : Nat → Nat) (Z : Nat → Bool) (j : Nat) : Bool := !Z j && (decide (0 < xpc (U j)) && decide (xpc (U j) < 16))
def xwo (g : Bool) (U AG : Nat → Nat) (TK : Nat) (j : Nat) : Nat := if g then (16 - xpc (U j)) * (TK - AG j + 1) / (xpc (U j) + 16) else 16 - xpc (U j)
theorem xworth {c a T : Nat} (hc : c ≤ 16) (ha : a ≤ T) (hT : T ≤ 100000) : (16 - nI c) * (nI T - nI a + 1) / (nI c + 16) = nI ((16 - c) * (T - a + 1) / (c + 16)) := by
  have h1 : (16 - c) * (T - a + 1) ≤ 16 * 100001 := Nat.mul_le_mul (by omega) (by omega)
  rw [show (16 : Int32) = nI 16 from rfl, pk_sub hc, pk_sub ha, nI_1, pk_mul, nI_add, pk_div (by omega) (by omega) (by omega)]
theorem xwo_lt {g : Bool} {U AG : Nat → Nat} {TK j : Nat} (hT : TK ≤ 100000) : xwo g U AG TK j < 2 ^ 31 := by
  unfold xwo
  cases g
  · simp; omega
  · have h1 : (16 - xpc (U j)) * (TK - AG j + 1) ≤ 16 * 100001 := Nat.mul_le_mul (by omega) (by omega)
    have h2 : (16 - xpc (U j)) * (TK - AG j + 1) / (xpc (U j) + 16) ≤ (16 - xpc (U j)) * (TK - AG j + 1) := Nat.div_le_self _ _
    simp; omega
