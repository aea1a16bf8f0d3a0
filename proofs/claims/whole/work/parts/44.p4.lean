/-! hanging together: both grow the least closed part that holds the lowest cell -/
def NB (h i : Nat) : Bool := (decide (i < 12) && h.testBit (i + 4)) || ((decide (4 ≤ i) && h.testBit (i - 4)) || ((decide (¬ i % 4 = 3) && h.testBit (i + 1)) || (decide (¬ i % 4 = 0) && h.testBit (i - 1))))
theorem nb_NB {h r c : Nat} (hr : r < 4) (hc : c < 4) : nbN h r c = NB h (15 - 4 * r - c) := by
  rcases (show r = 0 ∨ r = 1 ∨ r = 2 ∨ r = 3 by omega) with rfl | rfl | rfl | rfl <;> rcases (show c = 0 ∨ c = 1 ∨ c = 2 ∨ c = 3 by omega) with rfl | rfl | rfl | rfl <;> rfl
def Sub (a b : Nat) : Prop := ∀ i, a.testBit i = true → b.testBit i = true
def Clo (n h : Nat) : Prop := ∀ i, i < 16 → NB h i = true → n.testBit i = true → h.testBit i = true
theorem Sub.rf (a : Nat) : Sub a a := fun _ h => h
theorem Sub.tr {a b c : Nat} (h : Sub a b) (h' : Sub b c) : Sub a c := fun i q => h' i (h i q)
theorem Sub.eq {a b : Nat} (h : Sub a b) (h' : Sub b a) : a = b := by
  apply Nat.eq_of_testBit_eq
  intro i
  rw [Bool.eq_iff_iff]
  exact ⟨h i, h' i⟩
theorem sub_or {a b : Nat} (h : a ||| b = b) : Sub a b := fun i q => by
  rw [← h, Nat.testBit_or, q]; rfl
theorem Sub.lt {a b : Nat} (h : Sub a b) (hb : b < 65536) : a < 65536 := lt16 (fun i hi => by
  cases q : a.testBit i
  · rfl
  · have := h i q; rw [tb16 hb hi] at this; exact this.symm)
theorem NB_mono {a b i : Nat} (h : Sub a b) (q : NB a i = true) : NB b i = true := by
  unfold NB at q ⊢
  simp only [Bool.or_eq_true, Bool.and_eq_true] at q ⊢
  rcases q with q | q | q | q
  · exact Or.inl ⟨q.1, h _ q.2⟩
  · exact Or.inr (Or.inl ⟨q.1, h _ q.2⟩)
  · exact Or.inr (Or.inr (Or.inl ⟨q.1, h _ q.2⟩))
  · exact Or.inr (Or.inr (Or.inr ⟨q.1, h _ q.2⟩))
/-! the reference's sweeps -/
theorem swS_up {n r c h : Nat} : Sub h (swS n r c h) := fun i q => by unfold swS; rw [Nat.testBit_or, q]; rfl
theorem swS_in {n r c h Y : Nat} (hr : r < 4) (hc : c < 4) (hY : Clo n Y) (hs : Sub h Y) : Sub (swS n r c h) Y := fun i q => by
  unfold swS at q
  rw [Nat.testBit_or, Bool.or_eq_true] at q
  rcases q with q | q
  · exact hs i q
  · by_cases z : (nbN h r c && n.testBit (15 - 4 * r - c)) = true
    · rw [if_pos z, Nat.testBit_two_pow, decide_eq_true_iff] at q
      rw [Bool.and_eq_true, nb_NB hr hc] at z
      rw [← q]
      exact hY _ (by omega) (NB_mono hs z.1) z.2
    · rw [if_neg z, Nat.zero_testBit] at q; cases q
theorem swN_in {n h Y : Nat} (hY : Clo n Y) (hs : Sub h Y) : Sub (swN n h) Y :=
  itF_inv (N := 4) (fun _ a => Sub a Y) _ (fun r a hr ha => itF_inv (N := 4) (fun _ a => Sub a Y) _ (fun c a hc ha => swS_in hr hc hY ha) 4 0 a rfl ha) 4 0 h rfl hs
theorem swN_up {n h : Nat} : Sub h (swN n h) :=
  itF_inv (N := 4) (fun _ a => Sub h a) _ (fun r a _ ha => itF_inv (N := 4) (fun _ a => Sub h a) _ (fun c a _ ha => ha.tr swS_up) 4 0 a rfl ha) 4 0 h rfl (Sub.rf h)
theorem itF_le {f : Nat → Nat → Nat} (hf : ∀ i a, a ≤ f i a) : ∀ (k i a : Nat), a ≤ itF f i k a
  | 0, _, a => Nat.le_refl a
  | k + 1, i, a => Nat.le_trans (hf i a) (itF_le hf k (i + 1) (f i a))
theorem itF_fix {f : Nat → Nat → Nat} (hf : ∀ i a, a ≤ f i a) : ∀ (k i a : Nat), itF f i k a = a → ∀ j, j < k → f (i + j) a = a
  | 0, _, _, _, _, h => absurd h (Nat.not_lt_zero _)
  | k + 1, i, a, e, j, hj => by
    have e' : itF f (i + 1) k (f i a) = a := e
    have h1 := itF_le hf k (i + 1) (f i a)
    have h2 := hf i a
    have e1 : f i a = a := by omega
    rw [e1] at e'
    cases j with
    | zero => exact e1
    | succ j => rw [show i + (j + 1) = i + 1 + j by omega]; exact itF_fix hf k (i + 1) a e' j (by omega)
theorem swN_clo {n h : Nat} (e : swN n h = h) : Clo n h := fun i hi q1 q2 => by
  have hf : ∀ r a, a ≤ itF (fun c a => swS n r c a) 0 4 a := fun r a => itF_le (fun c a => swS_le) 4 0 a
  have e1 := itF_fix hf 4 0 h e ((15 - i) / 4) (by omega)
  have e2 := itF_fix (f := fun c a => swS n (0 + (15 - i) / 4) c a) (fun c a => swS_le) 4 0 h e1 ((15 - i) % 4) (by omega)
  have e3 : swS n ((15 - i) / 4) ((15 - i) % 4) h = h := by
    rw [show 0 + (15 - i) / 4 = (15 - i) / 4 by omega, show 0 + (15 - i) % 4 = (15 - i) % 4 by omega] at e2
    exact e2
  have ei : 15 - 4 * ((15 - i) / 4) - (15 - i) % 4 = i := by omega
  rw [← e3]
  unfold swS
  rw [nb_NB (by omega) (by omega), ei, q1, q2, Nat.testBit_or, Bool.and_true, if_pos rfl, Nat.testBit_two_pow, decide_eq_true rfl, Bool.or_true]
theorem wl_spec {n : Nat} : ∀ (k h : Nat), h ||| n = n → n - h < k → Clo n (wl k n h) ∧ Sub h (wl k n h) ∧ (wl k n h) ||| n = n ∧ ∀ Y, Clo n Y → Sub h Y → Sub (wl k n h) Y
  | 0, h, _, q => absurd q (Nat.not_lt_zero _)
  | k + 1, h, hs, q => by
    rw [wl]
    by_cases e : swN n h = h
    · rw [if_pos e]
      exact ⟨swN_clo e, Sub.rf h, hs, fun Y _ hY => hY⟩
    · rw [if_neg e]
      have h1 := swN_le (n := n) (h := h)
      have h2 := swN_sub hs
      have h3 := sub_le h2
      obtain ⟨a1, a2, a3, a4⟩ := wl_spec k (swN n h) h2 (by omega)
      exact ⟨a1, swN_up.tr a2, a3, fun Y hY hh => a4 Y hY (swN_in hY hh)⟩
/-! the class's steps, all cells at once -/
def grN (n g : Nat) : Nat := g ||| ((((g * 16 ||| g / 16) ||| (g &&& 30583) * 2) ||| (g &&& 61166) / 2) &&& n &&& 65535)
theorem gr_nI {n g : Nat} (hn : n < 65536) (hg : g < 65536) : grStep (nI n) (nI g) = nI (grN n g) := by
  unfold grStep
  have h1 : g &&& 30583 < 65536 := and_bd hg
  have h2 : g &&& 61166 < 65536 := and_bd hg
  rw [show (4 : Int32) = nI 4 from rfl, show (1 : Int32) = nI 1 from rfl, show (30583 : Int32) = nI 30583 from rfl, show (61166 : Int32) = nI 61166 from rfl, show (65535 : Int32) = nI 65535 from rfl, and_nI, and_nI, ishl_nI (by decide) (by omega), iush_nI (by decide) (by omega), ishl_nI (by decide) (by omega), iush_nI (by decide) (by omega), or_nI, or_nI, or_nI, and_nI, and_nI, or_nI]
  rfl
theorem m7 : ∀ j, j < 32 → Nat.testBit 30583 j = (decide (j < 16) && decide (¬ j % 4 = 3)) := by decide
theorem mE : ∀ j, j < 32 → Nat.testBit 61166 j = (decide (j < 16) && decide (¬ j % 4 = 0)) := by decide
theorem grN_tb {n g i : Nat} (hi : i < 16) (hg : g < 65536) : (grN n g).testBit i = (g.testBit i || (NB g i && n.testBit i)) := by
  unfold grN NB
  have h16 : ∀ j, 16 ≤ j → g.testBit j = false := fun j hj => tb16 hg hj
  rw [Nat.testBit_or, Nat.testBit_and, Nat.testBit_and, Nat.testBit_or, Nat.testBit_or, Nat.testBit_or, show g * 16 = g * 2 ^ 4 from rfl, show g / 16 = g / 2 ^ 4 from rfl, show (g &&& 30583) * 2 = (g &&& 30583) * 2 ^ 1 from rfl, show (g &&& 61166) / 2 = (g &&& 61166) / 2 ^ 1 from rfl, Nat.testBit_mul_two_pow, Nat.testBit_div_two_pow, Nat.testBit_mul_two_pow, Nat.testBit_div_two_pow, Nat.testBit_and, Nat.testBit_and, m7 (i - 1) (by omega), mE (i + 1) (by omega), show Nat.testBit 65535 i = true from by rw [show (65535 : Nat) = 2 ^ 16 - 1 from rfl, Nat.testBit_two_pow_sub_one]; exact decide_eq_true hi, Bool.and_true]
  have a1 : (decide (4 ≤ i) && g.testBit (i - 4) || g.testBit (i + 4)) = (decide (i < 12) && g.testBit (i + 4) || decide (4 ≤ i) && g.testBit (i - 4)) := by
    by_cases q : i < 12
    · rw [decide_eq_true q, Bool.true_and, Bool.or_comm]
    · rw [h16 (i + 4) (by omega)]; simp
  have a2 : (decide (1 ≤ i) && (g.testBit (i - 1) && (decide (i - 1 < 16) && decide (¬ (i - 1) % 4 = 3)))) = (decide (¬ i % 4 = 0) && g.testBit (i - 1)) := by
    rw [decide_eq_true (show i - 1 < 16 by omega), Bool.true_and]
    by_cases q : i % 4 = 0
    · rw [decide_eq_false (show ¬ ¬ i % 4 = 0 by omega), Bool.false_and]
      by_cases z : 1 ≤ i
      · rw [decide_eq_false (show ¬ ¬ (i - 1) % 4 = 3 by omega)]; simp
      · rw [decide_eq_false z]; rfl
    · rw [decide_eq_true q, decide_eq_true (show 1 ≤ i by omega), decide_eq_true (show ¬ (i - 1) % 4 = 3 by omega)]; simp
  have a3 : (g.testBit (i + 1) && (decide (i + 1 < 16) && decide (¬ (i + 1) % 4 = 0))) = (decide (¬ i % 4 = 3) && g.testBit (i + 1)) := by
    by_cases q : i % 4 = 3
    · rw [decide_eq_false (show ¬ ¬ (i + 1) % 4 = 0 by omega), decide_eq_false (show ¬ ¬ i % 4 = 3 by omega)]; simp
    · rw [decide_eq_true (show ¬ (i + 1) % 4 = 0 by omega), decide_eq_true q, decide_eq_true (show i + 1 < 16 by omega)]; simp
  rw [a1, a2, a3]
  cases g.testBit i <;> cases n.testBit i <;> simp [Bool.or_assoc, Bool.or_comm, Bool.or_left_comm]
theorem grN_up {n g : Nat} : Sub g (grN n g) := fun i q => by unfold grN; rw [Nat.testBit_or, q]; rfl
theorem grN_sub {n g : Nat} (h : Sub g n) : Sub (grN n g) n := fun i q => by
  unfold grN at q
  rw [Nat.testBit_or, Nat.testBit_and, Nat.testBit_and, Bool.or_eq_true, Bool.and_eq_true, Bool.and_eq_true] at q
  rcases q with q | q
  · exact h i q
  · exact q.1.2
theorem grN_in {n g Y : Nat} (hn : n < 65536) (hs : Sub g n) (hY : Clo n Y) (h : Sub g Y) : Sub (grN n g) Y := fun i q => by
  have hi : i < 16 := by
    rcases Nat.lt_or_ge i 16 with z | z
    · exact z
    · have := grN_sub hs i q; rw [tb16 hn z] at this; cases this
  rw [grN_tb hi (hs.lt hn), Bool.or_eq_true, Bool.and_eq_true] at q
  rcases q with q | q
  · exact h i q
  · exact hY i hi (NB_mono h q.1) q.2
theorem grN_clo {n g : Nat} (hg : g < 65536) (e : grN n g = g) : Clo n g := fun i hi q1 q2 => by
  rw [← e, grN_tb hi hg, q1, q2]; simp
theorem sumB_le {f g : Nat → Bool} : ∀ (k i : Nat), (∀ j, f j = true → g j = true) → sumB f k i ≤ sumB g k i
  | 0, _, _ => Nat.le_refl _
  | k + 1, i, h => by
    have := sumB_le k (i + 1) h
    show (f i).toNat + sumB f k (i + 1) ≤ (g i).toNat + sumB g k (i + 1)
    have : (f i).toNat ≤ (g i).toNat := by
      cases q : f i
      · exact Nat.zero_le _
      · rw [h i q]; exact Nat.le_refl _
    omega
theorem sumB_lt {f g : Nat → Bool} (h : ∀ j, f j = true → g j = true) {z : Nat} (h1 : f z = false) (h2 : g z = true) : ∀ (k i : Nat), i ≤ z → z < i + k → sumB f k i < sumB g k i
  | 0, _, _, _ => by omega
  | k + 1, i, a, b => by
    show (f i).toNat + sumB f k (i + 1) < (g i).toNat + sumB g k (i + 1)
    rcases Nat.lt_or_ge i z with q | q
    · have := sumB_lt h h1 h2 k (i + 1) q (by omega)
      have : (f i).toNat ≤ (g i).toNat := by
        cases w : f i
        · exact Nat.zero_le _
        · rw [h i w]; exact Nat.le_refl _
      omega
    · have e : i = z := by omega
      subst e
      have := sumB_le k (i + 1) h
      rw [h1, h2]
      show 0 + _ < 1 + _
      omega
theorem sumB_bd (f : Nat → Bool) : ∀ (k i : Nat), sumB f k i ≤ k
  | 0, _ => Nat.le_refl _
  | k + 1, i => by
    have := sumB_bd f k (i + 1)
    show (f i).toNat + sumB f k (i + 1) ≤ k + 1
    have : (f i).toNat ≤ 1 := by cases f i <;> decide
    omega
theorem gr_more {n g : Nat} (hn : n < 65536) (hs : Sub g n) (h : ¬ grN n g = g) : sumB g.testBit 16 0 < sumB (grN n g).testBit 16 0 := by
  obtain ⟨z, hz⟩ : ∃ z, ¬ (grN n g).testBit z = g.testBit z := by
    refine Classical.byContradiction (fun q => h (Nat.eq_of_testBit_eq (fun i => ?_)))
    refine Classical.byContradiction (fun w => q ⟨i, w⟩)
  have h2 : g.testBit z = false ∧ (grN n g).testBit z = true := by
    cases a : g.testBit z
    · cases b : (grN n g).testBit z
      · rw [a, b] at hz; exact absurd rfl hz
      · exact ⟨rfl, rfl⟩
    · rw [a, grN_up z a] at hz; exact absurd rfl hz
  have hi : z < 16 := by
    rcases Nat.lt_or_ge z 16 with w | w
    · exact w
    · have := grN_sub hs z h2.2; rw [tb16 hn w] at this; cases this
  exact sumB_lt grN_up h2.1 h2.2 16 0 (Nat.zero_le _) (by omega)
def grI (n : Nat) : Nat → Nat → Nat
  | 0, g => g
  | k + 1, g => grI n k (grN n g)
theorem grI_nI {n : Nat} (hn : n < 65536) : ∀ (k i g : Nat), Sub g n → itF (fun _ g => grStep (nI n) g) i k (nI g) = nI (grI n k g)
  | 0, _, _, _ => rfl
  | k + 1, i, g, hs => by
    show itF (fun _ g => grStep (nI n) g) (i + 1) k (grStep (nI n) (nI g)) = nI (grI n k (grN n g))
    rw [gr_nI hn (hs.lt hn)]
    exact grI_nI hn k (i + 1) _ (grN_sub hs)
theorem grI_fix {n g : Nat} (e : grN n g = g) : ∀ k, grI n k g = g
  | 0 => rfl
  | k + 1 => by show grI n k (grN n g) = g; rw [e]; exact grI_fix e k
def pcS (g : Nat) : Nat := sumB g.testBit 16 0
theorem grI_spec {n : Nat} (hn : n < 65536) (k : Nat) : ∀ (g : Nat), Sub g n → 16 < k + pcS g → Clo n (grI n k g) ∧ Sub g (grI n k g) ∧ Sub (grI n k g) n ∧ ∀ Y, Clo n Y → Sub g Y → Sub (grI n k g) Y := by
  induction k with
  | zero =>
    intro g hs q
    have h2 : pcS g ≤ 16 := sumB_bd g.testBit 16 0
    omega
  | succ k ih =>
    intro g hs q
    by_cases e : grN n g = g
    · rw [grI_fix e]
      exact ⟨grN_clo (hs.lt hn) e, Sub.rf g, hs, fun Y _ h => h⟩
    · have h1 : pcS g < pcS (grN n g) := gr_more hn hs e
      obtain ⟨a1, a2, a3, a4⟩ := ih (grN n g) (grN_sub hs) (by omega)
      exact ⟨a1, grN_up.tr a2, a3, fun Y hY h => a4 Y hY (grN_in hn hs hY h)⟩
theorem whole_eq {n : Nat} (h : sh16 n) : f_X2_isWhole (nI n) = f_X8_isWhole (nI n) := by
  have hn := h.2
  have hl := lowN_sub (n := n) (by omega)
  have hls := sub_or hl
  have hlt := hls.lt hn
  have hp := lowN_pos h
  obtain ⟨w1, w2, w3, w4⟩ := wl_spec (n := n) 65536 (lowN n) hl (by omega)
  have hsum : 0 < pcS (lowN n) := by
    obtain ⟨z, hz⟩ := pos_tb.mp hp
    have h16 : z < 16 := by
      rcases Nat.lt_or_ge z 16 with w | w
      · exact w
      · rw [tb16 hlt w] at hz; cases hz
    exact Nat.lt_of_le_of_lt (Nat.zero_le _) (sumB_lt (f := fun _ => false) (g := (lowN n).testBit) (fun _ q => by cases q) rfl hz 16 0 (Nat.zero_le _) (by omega))
  obtain ⟨g1, g2, g3, g4⟩ := grI_spec hn 16 (lowN n) hls (by omega)
  have e : grI n 16 (lowN n) = wl 65536 n (lowN n) := (g4 _ w1 w2).eq (w4 _ g1 g2)
  unfold f_X2_isWhole f_X8_isWhole whN
  rw [uI_nI (by omega), show nI n &&& -(nI n) = nI (lowN n) from (nI_uI _).symm, grI_nI hn 16 0 _ hls, e]
  have hb := (sub_or w3).lt hn
  by_cases q : wl 65536 n (lowN n) = n
  · rw [decide_eq_true q, if_pos (by rw [q])]
  · rw [decide_eq_false q, if_neg (fun z => q ((nI_eq (by omega) (by omega)).mp z))]
