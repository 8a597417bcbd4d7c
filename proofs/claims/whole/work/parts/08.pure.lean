/-! PURE: numbers, blocks, least free segments, counts -/
theorem xp_96 : (96 : Int32) = nI 96 := rfl
theorem xp_ix (x : Int32) {n : Nat} (hn : n < 2 ^ 31) : (∃ j : Nat, j < n ∧ x = nI j) ∨ ((x < 0 ∨ nI n ≤ x) ∧ ¬ ∃ j : Nat, j < n ∧ x = nI j) := by
  rcases pk_ix x hn with h | h | ⟨j, hj, rfl⟩
  · refine Or.inr ⟨Or.inl h, ?_⟩
    rintro ⟨j, hj, rfl⟩
    exact nI_pos (by omega) h
  · refine Or.inr ⟨Or.inr h, ?_⟩
    rintro ⟨j, hj, rfl⟩
    exact nI_ge hj hn h
  · exact Or.inl ⟨j, hj, rfl⟩
theorem xp_blk (x : Int32) {n : Nat} (hn : n ≤ 128) : (∃ j k : Nat, j < n ∧ k < 16 ∧ x = nI (96 + 16 * j + k)) ∨ ((x < 96 ∨ nI (96 + 16 * n) ≤ x) ∧ ¬ ∃ j k : Nat, j < n ∧ k < 16 ∧ x = nI (96 + 16 * j + k)) := by
  by_cases h1 : x < 96
  · refine Or.inr ⟨Or.inl h1, ?_⟩
    rintro ⟨j, k, hj, hk, rfl⟩
    rw [xp_96] at h1
    exact nI_nlt (by omega) (by omega) h1
  · by_cases h2 : nI (96 + 16 * n) ≤ x
    · refine Or.inr ⟨Or.inr h2, ?_⟩
      rintro ⟨j, k, hj, hk, rfl⟩
      exact nI_ge (by omega) (by omega) h2
    · have h0 : ¬ x < 0 := fun h => h1 (by
        rw [Int32.lt_iff_toInt_lt] at h ⊢
        have e0 : (0 : Int32).toInt = 0 := by decide
        have e1 : (96 : Int32).toInt = 96 := by decide
        omega)
      obtain ⟨t, ht, rfl⟩ := nI_of h0
      have g1 : 96 ≤ t := by
        rcases Nat.lt_or_ge t 96 with q | q
        · exact absurd (by rw [xp_96]; exact nI_lt q (by omega)) h1
        · exact q
      have g2 : t < 96 + 16 * n := by
        rcases Nat.lt_or_ge t (96 + 16 * n) with q | q
        · exact q
        · exact absurd (nI_le q ht) h2
      exact Or.inl ⟨(t - 96) / 16, (t - 96) % 16, by omega, by omega, by congr 1; omega⟩
