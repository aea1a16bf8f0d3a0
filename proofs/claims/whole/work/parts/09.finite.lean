theorem two256 {P : Nat → Prop} (h : ∀ a, a < 256 → ∀ b, b < 256 → P (256 * a + b)) : ∀ n, n < 65536 → P n := fun n hn => by
  have := h (n / 256) (by omega) (n % 256) (by omega)
  rwa [show 256 * (n / 256) + n % 256 = n by omega] at this
theorem mu_top : ∀ n, n < 65536 → (n &&& 61440 = 0 ↔ n < 4096) := two256 (by decide +kernel)
theorem mu_left : ∀ n, n < 65536 → (n = 0 ∨ ¬ n &&& 34952 = 0 ∨ (2 * n < 65536 ∧ (¬ 2 * n &&& 34952 = 0 ∨ (4 * n < 65536 ∧ (¬ 4 * n &&& 34952 = 0 ∨ (8 * n < 65536 ∧ ¬ 8 * n &&& 34952 = 0)))))) := two256 (by decide +kernel)
