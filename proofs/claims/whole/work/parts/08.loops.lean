/-! counted loops -/
def itF {σ : Type} (f : Nat → σ → σ) : Nat → Nat → σ → σ
  | _, 0, s => s
  | i, k + 1, s => itF f (i + 1) k (f i s)
theorem for_go {σ : Type} {P : Nat → σ → Prop} {N : Nat} (f : Nat → σ → σ) (step : ∀ i s, i < N → P (i + 1) (f i s) → P i s) : ∀ (k i : Nat) (s : σ), i + k = N → P N (itF f i k s) → P i s
  | 0, i, s, h, hp => by
    have : i = N := by omega
    subst this
    exact hp
  | k + 1, i, s, h, hp => step i s (by omega) (for_go f step k (i + 1) (f i s) (by omega) hp)
theorem for_goI {σ : Type} {P : Nat → σ → Prop} {N : Nat} (I : Nat → σ → Prop) (f : Nat → σ → σ) (hI : ∀ i s, i < N → I i s → I (i + 1) (f i s)) (step : ∀ i s, i < N → I i s → P (i + 1) (f i s) → P i s) : ∀ (k i : Nat) (s : σ), i + k = N → I i s → (I N (itF f i k s) → P N (itF f i k s)) → P i s
  | 0, i, s, h, hi, hp => by
    have : i = N := by omega
    subst this
    exact hp hi
  | k + 1, i, s, h, hi, hp => step i s (by omega) hi (for_goI I f hI step k (i + 1) (f i s) (by omega) (hI i s (by omega) hi) hp)
theorem itF_inv {σ : Type} {N : Nat} (I : Nat → σ → Prop) (f : Nat → σ → σ) (hI : ∀ i s, i < N → I i s → I (i + 1) (f i s)) : ∀ (k i : Nat) (s : σ), i + k = N → I i s → I N (itF f i k s)
  | 0, i, s, h, hi => by
    have : i = N := by omega
    subst this
    exact hi
  | k + 1, i, s, h, hi => itF_inv I f hI k (i + 1) (f i s) (by omega) (hI i s (by omega) hi)
theorem itF_cong {σ : Type} {N : Nat} {f g : Nat → σ → σ} (h : ∀ i s, i < N → f i s = g i s) : ∀ (k i : Nat) (s : σ), i + k = N → itF f i k s = itF g i k s
  | 0, _, _, _ => rfl
  | k + 1, i, s, e => by
    show itF f (i + 1) k (f i s) = itF g (i + 1) k (g i s)
    rw [h i s (by omega)]
    exact itF_cong h k (i + 1) _ (by omega)
theorem itF_succ {σ : Type} (f : Nat → σ → σ) : ∀ (k i : Nat) (s : σ), itF f i (k + 1) s = f (i + k) (itF f i k s)
  | 0, i, s => rfl
  | k + 1, i, s => by
    show itF f (i + 1) (k + 1) (f i s) = f (i + (k + 1)) (itF f (i + 1) k (f i s))
    rw [itF_succ f k (i + 1) (f i s)]
    congr 1
    omega
theorem nlit (n : Nat) : (OfNat.ofNat n : Int32) = nI n := rfl
theorem nlitL (n : Nat) : (OfNat.ofNat n : Int64) = lN n := rfl
theorem nle {a b : Nat} (ha : a < 2 ^ 31) (hb : b < 2 ^ 31) : nI a ≤ nI b ↔ a ≤ b := nI_leI ha hb
theorem nlt {a b : Nat} (ha : a < 2 ^ 31) (hb : b < 2 ^ 31) : nI a < nI b ↔ a < b := nI_ltI ha hb
theorem nlt_no {a b : Nat} {Q : Prop} (hb : b < 2 ^ 31) (h : a < b) (q : nI b ≤ nI a) : Q := absurd q (nI_ge h hb)
theorem nle_no {a : Nat} {Q : Prop} (q : ¬ nI a ≤ nI a) : Q := absurd (Int32.le_refl _) q
theorem ncl_neg {x : Int32} (h : x < 0) : x.toNatClampNeg = 0 := by
  have h1 := Int32.lt_iff_toInt_lt.mp h
  have h2 : (0 : Int32).toInt = 0 := rfl
  rw [h2] at h1
  show x.toInt.toNat = 0
  omega
