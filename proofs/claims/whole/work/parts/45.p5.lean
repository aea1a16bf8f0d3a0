/-! straight lines: the rays, what is seen, how far it is -/
def adf (a b : Nat) : Nat := (a - b) + (b - a)
def dst (c d : Nat) : Nat := adf (c / 8) (d / 8) + adf (c % 8) (d % 8)
theorem ray0 (c way : Nat) : rayN c way 0 = c := by
  match way with
  | 0 => show c - 8 * 0 = c; omega
  | 1 => rfl
  | 2 => rfl
  | w + 3 => rfl
theorem bes_ray {fr : Nat → Bool} {c e way : Nat} (h : besN fr c way = some e) : e = rayN c way 1 := by
  match way, h with
  | 0, h =>
    have h : (if 8 ≤ c ∧ fr (c - 8) = true then some (c - 8) else none) = some e := h
    split at h
    · cases h; rfl
    · cases h
  | 1, h =>
    have h : (if c % 8 < 7 ∧ fr (c + 1) = true then some (c + 1) else none) = some e := h
    split at h
    · cases h; rfl
    · cases h
  | 2, h =>
    have h : (if c < 56 ∧ fr (c + 8) = true then some (c + 8) else none) = some e := h
    split at h
    · cases h; rfl
    · cases h
  | w + 3, h =>
    have h : (if 0 < c % 8 ∧ fr (c - 1) = true then some (c - 1) else none) = some e := h
    split at h
    · cases h; rfl
    · cases h
theorem ray_ray (c way k : Nat) : rayN (rayN c way 1) way k = rayN c way (k + 1) := by
  match way with
  | 0 => show c - 8 * 1 - 8 * k = c - 8 * (k + 1); omega
  | 1 => show c + 1 + k = c + (k + 1); omega
  | 2 => show c + 8 * 1 + 8 * k = c + 8 * (k + 1); omega
  | w + 3 => show c - 1 - k = c - (k + 1); omega
theorem ray_lt {c way k : Nat} (hc : c < 64) (hk : k ≤ roomW c way) : rayN c way k < 64 := by
  match way, hk with
  | 0, hk => show c - 8 * k < 64; omega
  | 1, hk => have hk : k ≤ 7 - c % 8 := hk; show c + k < 64; omega
  | 2, hk => have hk : k ≤ 7 - c / 8 := hk; show c + 8 * k < 64; omega
  | w + 3, hk => show c - k < 64; omega
theorem ray_dst {c way k : Nat} (hk : k ≤ roomW c way) : dst c (rayN c way k) = k := by
  unfold dst adf
  match way, hk with
  | 0, hk =>
    have hk : k ≤ c / 8 := hk
    show (c / 8 - (c - 8 * k) / 8 + ((c - 8 * k) / 8 - c / 8)) + (c % 8 - (c - 8 * k) % 8 + ((c - 8 * k) % 8 - c % 8)) = k
    have e1 : (c - 8 * k) / 8 = c / 8 - k := by omega
    have e2 : (c - 8 * k) % 8 = c % 8 := by omega
    omega
  | 1, hk =>
    have hk : k ≤ 7 - c % 8 := hk
    show (c / 8 - (c + k) / 8 + ((c + k) / 8 - c / 8)) + (c % 8 - (c + k) % 8 + ((c + k) % 8 - c % 8)) = k
    have e1 : (c + k) / 8 = c / 8 := by omega
    have e2 : (c + k) % 8 = c % 8 + k := by omega
    omega
  | 2, hk =>
    have hk : k ≤ 7 - c / 8 := hk
    show (c / 8 - (c + 8 * k) / 8 + ((c + 8 * k) / 8 - c / 8)) + (c % 8 - (c + 8 * k) % 8 + ((c + 8 * k) % 8 - c % 8)) = k
    have e1 : (c + 8 * k) / 8 = c / 8 + k := by omega
    have e2 : (c + 8 * k) % 8 = c % 8 := by omega
    omega
  | w + 3, hk =>
    have hk : k ≤ c % 8 := hk
    show (c / 8 - (c - k) / 8 + ((c - k) / 8 - c / 8)) + (c % 8 - (c - k) % 8 + ((c - k) % 8 - c % 8)) = k
    have e1 : (c - k) / 8 = c / 8 := by omega
    have e2 : (c - k) % 8 = c % 8 - k := by omega
    omega
theorem dst_self (c : Nat) : dst c c = 0 := by unfold dst adf; omega
/-- d is on the way's ray from c, as far as it is free -/
def onR (fr : Nat → Bool) (c way d : Nat) : Prop := ∃ k, k ≤ echoN fr c way ∧ rayN c way k = d
theorem onR_dst {fr : Nat → Bool} {c way d k : Nat} (hc : c < 64) (hk : k ≤ echoN fr c way) (e : rayN c way k = d) : dst c d = k := by
  rw [← e]
  exact ray_dst (Nat.le_trans hk (echo_room hc))
theorem onR_none {fr : Nat → Bool} {c way d : Nat} (hc : c < 64) (h : besN fr c way = none) : onR fr c way d ↔ c = d := by
  have e : echoN fr c way = 0 := by rw [echo_bes hc, h]
  unfold onR
  rw [e]
  constructor
  · rintro ⟨k, hk, e⟩
    have : k = 0 := by omega
    subst this
    rw [ray0] at e; exact e
  · intro q; exact ⟨0, Nat.le_refl _, by rw [ray0]; exact q⟩
theorem onR_some {fr : Nat → Bool} {c e way d : Nat} (hc : c < 64) (h : besN fr c way = some e) : onR fr c way d ↔ (c = d ∨ onR fr e way d) := by
  have ee : echoN fr c way = echoN fr e way + 1 := by rw [echo_bes hc, h]
  have er := bes_ray h
  unfold onR
  rw [ee]
  constructor
  · rintro ⟨k, hk, q⟩
    cases k with
    | zero => rw [ray0] at q; exact Or.inl q
    | succ k => exact Or.inr ⟨k, by omega, by rw [er, ray_ray]; exact q⟩
  · rintro (q | ⟨k, hk, q⟩)
    · exact ⟨0, by omega, by rw [ray0]; exact q⟩
    · exact ⟨k + 1, by omega, by rw [← ray_ray, ← er]; exact q⟩
theorem stF_none (fr : Nat → Bool) (way d m n : Nat) (b : Int32) : stF fr way d m none n b = b := by cases m <;> rfl
theorem stF_val (fr : Nat → Bool) (way d : Nat) : ∀ (m c n : Nat) (b : Int32), c < 64 → roomW c way < m → (onR fr c way d → stF fr way d m (some c) n b = nI (n + dst c d)) ∧ (¬ onR fr c way d → stF fr way d m (some c) n b = b)
  | 0, _, _, _, _, h => absurd h (Nat.not_lt_zero _)
  | m + 1, c, n, b, hc, hm => by
    rw [stF]
    cases e : besN fr c way with
    | none =>
      rw [stF_none, onR_none hc e]
      refine ⟨fun q => ?_, fun q => ?_⟩
      · rw [if_pos q, ← q, dst_self, Nat.add_zero]
      · rw [if_neg q]
    | some f =>
      obtain ⟨f1, f2, f3⟩ := bes_some hc e
      have ih := stF_val fr way d m f (n + 1) (if c = d then nI n else b) f1 (by omega)
      rw [onR_some hc e]
      refine ⟨fun q => ?_, fun q => ?_⟩
      · by_cases w : onR fr f way d
        · rw [ih.1 w]
          obtain ⟨k, hk, ek⟩ := w
          have d1 := onR_dst f1 hk ek
          have ee : echoN fr c way = echoN fr f way + 1 := by rw [echo_bes hc, e]
          have d2 := onR_dst (d := d) (k := k + 1) (way := way) (fr := fr) hc (by omega) (by rw [← ray_ray, ← bes_ray e]; exact ek)
          rw [d1, d2, show n + 1 + k = n + (k + 1) by omega]
        · rcases q with q | q
          · rw [ih.2 w, if_pos q, ← q, dst_self, Nat.add_zero]
          · exact absurd q w
      · rw [ih.2 (fun w => q (Or.inr w)), if_neg (fun w => q (Or.inl w))]
def seenN (fr : Nat → Bool) (c d : Nat) : Prop := ∃ way, way < 4 ∧ onR fr c way d
theorem seen_self (fr : Nat → Bool) (c : Nat) : seenN fr c c := ⟨0, by decide, 0, Nat.zero_le _, ray0 c 0⟩
theorem steps_val {fr : Nat → Bool} {c d : Nat} (hc : c < 64) : (seenN fr c d → stepsN fr c d = nI (dst c d)) ∧ (¬ seenN fr c d → stepsN fr c d = -1) := by
  have h := itF_inv (N := 4) (fun way (b : Int32) => ((∃ w, w < way ∧ onR fr c w d) → b = nI (dst c d)) ∧ (¬ (∃ w, w < way ∧ onR fr c w d) → b = if c = d then 0 else -1)) (fun way b => stF fr way d 9 (some c) 0 b) (fun way b hw hI => ?_) 4 0 (if c = d then 0 else -1) rfl ⟨fun q => by obtain ⟨w, hw, _⟩ := q; omega, fun _ => rfl⟩
  · refine ⟨fun q => h.1 q, fun q => ?_⟩
    have e := h.2 q
    exact e.trans (if_neg (fun z : c = d => q (by rw [← z]; exact seen_self fr c)))
  · have hr := roomW_le (way := way) hc
    have hv := stF_val fr way d 9 c 0 b hc (by omega)
    refine ⟨fun q => ?_, fun q => ?_⟩
    · by_cases w : onR fr c way d
      · rw [hv.1 w, Nat.zero_add]
      · rw [hv.2 w]
        refine hI.1 ?_
        obtain ⟨z, hz, q⟩ := q
        rcases Nat.lt_or_ge z way with y | y
        · exact ⟨z, y, q⟩
        · have : z = way := by omega
          subst this
          exact absurd q w
    · rw [hv.2 (fun w => q ⟨way, by omega, w⟩)]
      exact hI.2 (fun z => q (by obtain ⟨w, hw, z⟩ := z; exact ⟨w, by omega, z⟩))
theorem dst_lt {c d : Nat} (hc : c < 64) (hd : d < 64) : dst c d ≤ 14 := by unfold dst adf; omega
theorem steps_m1 {fr : Nat → Bool} {c d : Nat} (hc : c < 64) (hd : d < 64) : stepsN fr c d = -1 ↔ ¬ seenN fr c d := by
  obtain ⟨h1, h2⟩ := steps_val (fr := fr) (d := d) hc
  refine ⟨fun q w => ?_, h2⟩
  rw [h1 w] at q
  exact nm1 (by have := dst_lt hc hd; omega) q
/-! the view as bits -/
theorem vw_in {fr : Nat → Bool} {c way : Nat} (hc : c < 64) (v : Int64) : ∀ (m : Nat), m ≤ echoN fr c way → ∀ d, d < 64 → (tbL (itF (fun k v => v ||| lshl 1 (nI (rayN c way (k + 1)))) 0 m v) d = true ↔ tbL v d = true ∨ ∃ k, k < m ∧ d = rayN c way (k + 1))
  | 0, _, d, hd => by
    constructor
    · intro h; exact Or.inl h
    · rintro (h | ⟨k, hk, _⟩)
      · exact h
      · omega
  | m + 1, hm, d, hd => by
    have hr := echo_room (fr := fr) (way := way) hc
    rw [itF_succ, Nat.zero_add, tbL_or, tbL_bit (ray_lt hc (by omega)), Bool.or_eq_true, vw_in (fr := fr) hc v m (by omega) d hd, decide_eq_true_iff]
    constructor
    · rintro ((h | ⟨k, hk, e⟩) | h)
      · exact Or.inl h
      · exact Or.inr ⟨k, by omega, e⟩
      · exact Or.inr ⟨m, by omega, h⟩
    · rintro (h | ⟨k, hk, e⟩)
      · exact Or.inl (Or.inl h)
      · rcases Nat.lt_or_ge k m with q | q
        · exact Or.inl (Or.inr ⟨k, q, e⟩)
        · have : k = m := by omega
          subst this
          exact Or.inr e
theorem vwF_tb {fr : Nat → Bool} {c d : Nat} (hc : c < 64) (hd : d < 64) : tbL (vwF fr c) d = true ↔ seenN fr c d := by
  have h := itF_inv (N := 4) (fun way (v : Int64) => ∀ d, d < 64 → (tbL v d = true ↔ d = c ∨ ∃ w, w < way ∧ ∃ k, k < echoN fr c w ∧ d = rayN c w (k + 1))) (fun way v => itF (fun k v => v ||| lshl 1 (nI (rayN c way (k + 1)))) 0 (echoN fr c way) v) (fun way v hw hI d hd => ?_) 4 0 (lshl 1 (nI c)) rfl (fun d hd => ?_)
  · refine (h d hd).trans ⟨?_, ?_⟩
    · rintro (q | ⟨w, hw, k, hk, e⟩)
      · rw [q]; exact seen_self fr c
      · exact ⟨w, hw, k + 1, hk, e.symm⟩
    · rintro ⟨w, hw, k, hk, e⟩
      cases k with
      | zero => rw [ray0] at e; exact Or.inl e.symm
      | succ k => exact Or.inr ⟨w, hw, k, hk, e.symm⟩
  · rw [vw_in hc v _ (Nat.le_refl _) d hd, hI d hd]
    constructor
    · rintro ((q | ⟨w, hw, q⟩) | q)
      · exact Or.inl q
      · exact Or.inr ⟨w, by omega, q⟩
      · exact Or.inr ⟨way, by omega, q⟩
    · rintro (q | ⟨w, hw, q⟩)
      · exact Or.inl (Or.inl q)
      · rcases Nat.lt_or_ge w way with z | z
        · exact Or.inl (Or.inr ⟨w, z, q⟩)
        · have : w = way := by omega
          subst this
          exact Or.inr q
  · rw [tbL_bit hc, decide_eq_true_iff]
    constructor
    · intro q; exact Or.inl q
    · rintro (q | ⟨w, hw, _⟩)
      · exact q
      · omega
/-- the cells that are seen are free -/
theorem ray_free {fr : Nat → Bool} {way : Nat} : ∀ (k c : Nat), c < 64 → k < echoN fr c way → fr (rayN c way (k + 1)) = true
  | 0, c, hc, h => by
    rw [echo_bes hc] at h
    cases e : besN fr c way with
    | none => rw [e] at h; exact absurd h (Nat.not_lt_zero _)
    | some f => rw [← bes_ray e]; exact (bes_some hc e).2.1
  | k + 1, c, hc, h => by
    rw [echo_bes hc] at h
    cases e : besN fr c way with
    | none => rw [e] at h; exact absurd h (Nat.not_lt_zero _)
    | some f =>
      rw [e] at h
      rw [← ray_ray, ← bes_ray e]
      exact ray_free k f (bes_some hc e).1 (by have h : k + 1 < echoN fr f way + 1 := h; omega)
theorem seen_free {fr : Nat → Bool} {c d : Nat} (hc : c < 64) (h : seenN fr c d) (hf : fr c = true) : fr d = true := by
  obtain ⟨w, hw, k, hk, e⟩ := h
  cases k with
  | zero => rw [ray0] at e; rw [← e]; exact hf
  | succ k => rw [← e]; exact ray_free k c hc (by omega)
/-! how many are seen -/
theorem sumB_bit {x : Int64} {z : Nat} (hz : z < 64) (h : tbL x z = false) : ∀ (k i : Nat), i ≤ z → z < i + k → sumB (tbL (x ||| lshl 1 (nI z))) k i = sumB (tbL x) k i + 1
  | 0, _, _, _ => by omega
  | k + 1, i, a, b => by
    show (tbL (x ||| lshl 1 (nI z)) i).toNat + sumB (tbL (x ||| lshl 1 (nI z))) k (i + 1) = (tbL x i).toNat + sumB (tbL x) k (i + 1) + 1
    rcases Nat.lt_or_ge i z with q | q
    · rw [sumB_bit hz h k (i + 1) q (by omega), tbL_or, tbL_bit hz, decide_eq_false (by omega), Bool.or_false]
      omega
    · have e : i = z := by omega
      subst e
      have : sumB (tbL (x ||| lshl 1 (nI i))) k (i + 1) = sumB (tbL x) k (i + 1) := sumB_cong k (i + 1) (fun j h1 h2 => by rw [tbL_or, tbL_bit hz, decide_eq_false (by omega), Bool.or_false])
      rw [this, tbL_or, tbL_bit hz, h, decide_eq_true rfl]
      show 1 + _ = 0 + _ + 1
      omega
def cntL (x : Int64) : Nat := sumB (tbL x) 64 0
theorem cntL_bit {x : Int64} {z : Nat} (hz : z < 64) (h : tbL x z = false) : cntL (x ||| lshl 1 (nI z)) = cntL x + 1 := sumB_bit hz h 64 0 (Nat.zero_le _) (by omega)
theorem bc_sum (x : Int64) : f_J13_bitCount_95d88 x = nI (cntL x) := by
  have h := pcR_sum (uL x) 64 0
  rw [Nat.pow_zero, Nat.div_one] at h
  rw [bc64, h, cntL]
  exact congrArg nI (sumB_cong 64 0 (fun _ _ _ => rfl))
theorem ray_apart {c w w' k k' : Nat} (hc : c < 64) (hw : w < 4) (hw' : w' < w) (hk : k + 1 ≤ roomW c w) (hk' : k' + 1 ≤ roomW c w') : rayN c w (k + 1) ≠ rayN c w' (k' + 1) := by
  rcases (show (w = 1 ∧ w' = 0) ∨ (w = 2 ∧ w' = 0) ∨ (w = 2 ∧ w' = 1) ∨ (w = 3 ∧ w' = 0) ∨ (w = 3 ∧ w' = 1) ∨ (w = 3 ∧ w' = 2) by omega) with ⟨rfl, rfl⟩ | ⟨rfl, rfl⟩ | ⟨rfl, rfl⟩ | ⟨rfl, rfl⟩ | ⟨rfl, rfl⟩ | ⟨rfl, rfl⟩
  · have h1 : k + 1 ≤ 7 - c % 8 := hk
    have h2 : k' + 1 ≤ c / 8 := hk'
    show c + (k + 1) ≠ c - 8 * (k' + 1); omega
  · have h1 : k + 1 ≤ 7 - c / 8 := hk
    have h2 : k' + 1 ≤ c / 8 := hk'
    show c + 8 * (k + 1) ≠ c - 8 * (k' + 1); omega
  · have h1 : k + 1 ≤ 7 - c / 8 := hk
    have h2 : k' + 1 ≤ 7 - c % 8 := hk'
    show c + 8 * (k + 1) ≠ c + (k' + 1); omega
  · have h1 : k + 1 ≤ c % 8 := hk
    have h2 : k' + 1 ≤ c / 8 := hk'
    show c - (k + 1) ≠ c - 8 * (k' + 1); omega
  · have h1 : k + 1 ≤ c % 8 := hk
    have h2 : k' + 1 ≤ 7 - c % 8 := hk'
    show c - (k + 1) ≠ c + (k' + 1); omega
  · have h1 : k + 1 ≤ c % 8 := hk
    have h2 : k' + 1 ≤ 7 - c / 8 := hk'
    show c - (k + 1) ≠ c + 8 * (k' + 1); omega
theorem ray_inj {c w k k' : Nat} (hk : k ≤ roomW c w) (hk' : k' ≤ roomW c w) (e : rayN c w k = rayN c w k') : k = k' := by
  have h1 := ray_dst hk
  have h2 := ray_dst hk'
  rw [e] at h1
  omega
def esum (fr : Nat → Bool) (c : Nat) : Nat → Nat
  | 0 => 1
  | w + 1 => esum fr c w + echoN fr c w
theorem vw_cnt {fr : Nat → Bool} {c way : Nat} (hc : c < 64) (v : Int64) (hn : ∀ k, k < echoN fr c way → tbL v (rayN c way (k + 1)) = false) (m : Nat) : m ≤ echoN fr c way → cntL (itF (fun k v => v ||| lshl 1 (nI (rayN c way (k + 1)))) 0 m v) = cntL v + m := by
  induction m with
  | zero => intro _; exact (Nat.add_zero _).symm
  | succ m ih =>
    intro hm
    have hr := echo_room (fr := fr) (way := way) hc
    have hl := ray_lt (way := way) (k := m + 1) hc (by omega)
    rw [itF_succ, Nat.zero_add, cntL_bit hl ?_, ih (by omega)]
    · omega
    · cases e : tbL (itF (fun k v => v ||| lshl 1 (nI (rayN c way (k + 1)))) 0 m v) (rayN c way (m + 1))
      · rfl
      · rcases (vw_in (fr := fr) hc v m (by omega) _ hl).mp e with q | ⟨k, hk, q⟩
        · rw [hn m (by omega)] at q; cases q
        · have := ray_inj (by omega) (by omega) q; omega
theorem vwF_cnt {fr : Nat → Bool} {c : Nat} (hc : c < 64) : cntL (vwF fr c) = esum fr c 4 := by
  have h := itF_inv (N := 4) (fun way (v : Int64) => (∀ d, d < 64 → (tbL v d = true ↔ d = c ∨ ∃ w, w < way ∧ ∃ k, k < echoN fr c w ∧ d = rayN c w (k + 1))) ∧ cntL v = esum fr c way) (fun way v => itF (fun k v => v ||| lshl 1 (nI (rayN c way (k + 1)))) 0 (echoN fr c way) v) (fun way v hw hI => ⟨fun d hd => ?_, ?_⟩) 4 0 (lshl 1 (nI c)) rfl ⟨fun d hd => ?_, ?_⟩
  · exact h.2
  · rw [vw_in hc v _ (Nat.le_refl _) d hd, hI.1 d hd]
    constructor
    · rintro ((q | ⟨w, hw, q⟩) | q)
      · exact Or.inl q
      · exact Or.inr ⟨w, by omega, q⟩
      · exact Or.inr ⟨way, by omega, q⟩
    · rintro (q | ⟨w, hw, q⟩)
      · exact Or.inl (Or.inl q)
      · rcases Nat.lt_or_ge w way with z | z
        · exact Or.inl (Or.inr ⟨w, z, q⟩)
        · have : w = way := by omega
          subst this
          exact Or.inr q
  · have hr := echo_room (fr := fr) (way := way) hc
    rw [vw_cnt hc v (fun k hk => ?_) _ (Nat.le_refl _), hI.2]
    · rfl
    · cases e : tbL v (rayN c way (k + 1))
      · rfl
      · rcases (hI.1 _ (ray_lt hc (by omega))).mp e with q | ⟨w, hw', k', hk', q⟩
        · have h1 := ray_dst (c := c) (way := way) (k := k + 1) (by omega)
          rw [q, dst_self] at h1; omega
        · have hr' := echo_room (fr := fr) (way := w) hc
          exact absurd q (ray_apart hc hw hw' (by omega) (by omega))
  · rw [tbL_bit hc, decide_eq_true_iff]
    constructor
    · intro q; exact Or.inl q
    · rintro (q | ⟨w, hw, _⟩)
      · exact q
      · omega
  · have h0 := cntL_bit (x := 0) hc (tbL_0 c)
    have e : (0 : Int64) ||| lshl 1 (nI c) = lshl 1 (nI c) := tbL_ext (fun d _ => by rw [tbL_or, tbL_0, Bool.false_or])
    have z : ∀ (k i : Nat), sumB (tbL 0) k i = 0 := by
      intro k
      induction k with
      | zero => intro i; rfl
      | succ k ih => intro i; show (tbL 0 i).toNat + sumB (tbL 0) k (i + 1) = 0; rw [tbL_0, ih]; rfl
    rw [e, show cntL 0 = 0 from z 64 0] at h0
    exact h0
theorem view_cnt {fr : Nat → Bool} {c : Nat} (hc : c < 64) : f_J13_bitCount_95d88 (vwF fr c) = nI (1 + echoN fr c 0 + echoN fr c 1 + echoN fr c 2 + echoN fr c 3) := by
  rw [bc_sum, vwF_cnt hc]
  rfl
