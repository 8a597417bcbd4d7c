/-! SUMS, BITS, FREE SEGMENTS, VICTIMS -/
def xcnt (f : Nat → Nat) : Nat → Nat
  | 0 => 0
  | i + 1 => xcnt f i + f i
theorem xcnt_le {f : Nat → Nat} {b : Nat} (h : ∀ j, f j ≤ b) : ∀ n, xcnt f n ≤ b * n := by
  intro n
  induction n with
  | zero => exact Nat.zero_le _
  | succ n ih => rw [xcnt, Nat.mul_succ]; exact Nat.add_le_add ih (h n)
theorem xcnt_congr {f g : Nat → Nat} : ∀ n, (∀ j, j < n → f j = g j) → xcnt f n = xcnt g n := by
  intro n
  induction n with
  | zero => intro _; rfl
  | succ n ih => intro h; rw [xcnt, xcnt, ih (fun j hj => h j (by omega)), h n (by omega)]
/-- bits set among the lowest sixteen -/
def xpc (M : Nat) : Nat := xcnt (fun k => (M.testBit k).toNat) 16
theorem xpc_le (M : Nat) : xpc M ≤ 16 := Nat.le_trans (xcnt_le (b := 1) (fun j => by cases M.testBit j <;> decide) 16) (by decide)
/-- the steps of Integer.bitCount over numbers -/
def xg1 (M : Nat) : Nat := M - (M / 2 &&& 1431655765)
def xg2 (M : Nat) : Nat := (xg1 M &&& 858993459) + (xg1 M / 4 &&& 858993459)
def xg3 (M : Nat) : Nat := (xg2 M + xg2 M / 16) &&& 252645135
def xg4 (M : Nat) : Nat := xg3 M + xg3 M / 256
def xg5 (M : Nat) : Nat := xg4 M + xg4 M / 65536
def xg (M : Nat) : Nat := xg5 M &&& 63
theorem xgd_0 : ∀ h, h < 16 → ∀ q, q < 256 → xg (0 + 256 * h + q) = xpc (0 + 256 * h + q) := by decide +kernel
theorem xgd_1 : ∀ h, h < 16 → ∀ q, q < 256 → xg (4096 + 256 * h + q) = xpc (4096 + 256 * h + q) := by decide +kernel
theorem xgd_2 : ∀ h, h < 16 → ∀ q, q < 256 → xg (8192 + 256 * h + q) = xpc (8192 + 256 * h + q) := by decide +kernel
theorem xgd_3 : ∀ h, h < 16 → ∀ q, q < 256 → xg (12288 + 256 * h + q) = xpc (12288 + 256 * h + q) := by decide +kernel
theorem xgd_4 : ∀ h, h < 16 → ∀ q, q < 256 → xg (16384 + 256 * h + q) = xpc (16384 + 256 * h + q) := by decide +kernel
theorem xgd_5 : ∀ h, h < 16 → ∀ q, q < 256 → xg (20480 + 256 * h + q) = xpc (20480 + 256 * h + q) := by decide +kernel
theorem xgd_6 : ∀ h, h < 16 → ∀ q, q < 256 → xg (24576 + 256 * h + q) = xpc (24576 + 256 * h + q) := by decide +kernel
theorem xgd_7 : ∀ h, h < 16 → ∀ q, q < 256 → xg (28672 + 256 * h + q) = xpc (28672 + 256 * h + q) := by decide +kernel
theorem xgd_8 : ∀ h, h < 16 → ∀ q, q < 256 → xg (32768 + 256 * h + q) = xpc (32768 + 256 * h + q) := by decide +kernel
theorem xgd_9 : ∀ h, h < 16 → ∀ q, q < 256 → xg (36864 + 256 * h + q) = xpc (36864 + 256 * h + q) := by decide +kernel
theorem xgd_10 : ∀ h, h < 16 → ∀ q, q < 256 → xg (40960 + 256 * h + q) = xpc (40960 + 256 * h + q) := by decide +kernel
theorem xgd_11 : ∀ h, h < 16 → ∀ q, q < 256 → xg (45056 + 256 * h + q) = xpc (45056 + 256 * h + q) := by decide +kernel
theorem xgd_12 : ∀ h, h < 16 → ∀ q, q < 256 → xg (49152 + 256 * h + q) = xpc (49152 + 256 * h + q) := by decide +kernel
theorem xgd_13 : ∀ h, h < 16 → ∀ q, q < 256 → xg (53248 + 256 * h + q) = xpc (53248 + 256 * h + q) := by decide +kernel
theorem xgd_14 : ∀ h, h < 16 → ∀ q, q < 256 → xg (57344 + 256 * h + q) = xpc (57344 + 256 * h + q) := by decide +kernel
theorem xgd_15 : ∀ h, h < 16 → ∀ q, q < 256 → xg (61440 + 256 * h + q) = xpc (61440 + 256 * h + q) := by decide +kernel
theorem xg_pc {M : Nat} (h : M < 65536) : xg M = xpc M := by
  have hk : M / 4096 = 0 ∨ M / 4096 = 1 ∨ M / 4096 = 2 ∨ M / 4096 = 3 ∨ M / 4096 = 4 ∨ M / 4096 = 5 ∨ M / 4096 = 6 ∨ M / 4096 = 7 ∨ M / 4096 = 8 ∨ M / 4096 = 9 ∨ M / 4096 = 10 ∨ M / 4096 = 11 ∨ M / 4096 = 12 ∨ M / 4096 = 13 ∨ M / 4096 = 14 ∨ M / 4096 = 15 := by omega
  rcases hk with q | q | q | q | q | q | q | q | q | q | q | q | q | q | q | q
  · have := xgd_0 ((M - 0) / 256) (by omega) (M % 256) (by omega)
    rwa [show 0 + 256 * ((M - 0) / 256) + M % 256 = M by omega] at this
  · have := xgd_1 ((M - 4096) / 256) (by omega) (M % 256) (by omega)
    rwa [show 4096 + 256 * ((M - 4096) / 256) + M % 256 = M by omega] at this
  · have := xgd_2 ((M - 8192) / 256) (by omega) (M % 256) (by omega)
    rwa [show 8192 + 256 * ((M - 8192) / 256) + M % 256 = M by omega] at this
  · have := xgd_3 ((M - 12288) / 256) (by omega) (M % 256) (by omega)
    rwa [show 12288 + 256 * ((M - 12288) / 256) + M % 256 = M by omega] at this
  · have := xgd_4 ((M - 16384) / 256) (by omega) (M % 256) (by omega)
    rwa [show 16384 + 256 * ((M - 16384) / 256) + M % 256 = M by omega] at this
  · have := xgd_5 ((M - 20480) / 256) (by omega) (M % 256) (by omega)
    rwa [show 20480 + 256 * ((M - 20480) / 256) + M % 256 = M by omega] at this
  · have := xgd_6 ((M - 24576) / 256) (by omega) (M % 256) (by omega)
    rwa [show 24576 + 256 * ((M - 24576) / 256) + M % 256 = M by omega] at this
  · have := xgd_7 ((M - 28672) / 256) (by omega) (M % 256) (by omega)
    rwa [show 28672 + 256 * ((M - 28672) / 256) + M % 256 = M by omega] at this
  · have := xgd_8 ((M - 32768) / 256) (by omega) (M % 256) (by omega)
    rwa [show 32768 + 256 * ((M - 32768) / 256) + M % 256 = M by omega] at this
  · have := xgd_9 ((M - 36864) / 256) (by omega) (M % 256) (by omega)
    rwa [show 36864 + 256 * ((M - 36864) / 256) + M % 256 = M by omega] at this
  · have := xgd_10 ((M - 40960) / 256) (by omega) (M % 256) (by omega)
    rwa [show 40960 + 256 * ((M - 40960) / 256) + M % 256 = M by omega] at this
  · have := xgd_11 ((M - 45056) / 256) (by omega) (M % 256) (by omega)
    rwa [show 45056 + 256 * ((M - 45056) / 256) + M % 256 = M by omega] at this
  · have := xgd_12 ((M - 49152) / 256) (by omega) (M % 256) (by omega)
    rwa [show 49152 + 256 * ((M - 49152) / 256) + M % 256 = M by omega] at this
  · have := xgd_13 ((M - 53248) / 256) (by omega) (M % 256) (by omega)
    rwa [show 53248 + 256 * ((M - 53248) / 256) + M % 256 = M by omega] at this
  · have := xgd_14 ((M - 57344) / 256) (by omega) (M % 256) (by omega)
    rwa [show 57344 + 256 * ((M - 57344) / 256) + M % 256 = M by omega] at this
  · have := xgd_15 ((M - 61440) / 256) (by omega) (M % 256) (by omega)
    rwa [show 61440 + 256 * ((M - 61440) / 256) + M % 256 = M by omega] at this
