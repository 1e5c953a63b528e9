/-! the mathematics: kin as a graph, steps as the least number; sets as numbers -/
section GR
def fstF (p : Nat → Bool) : Nat → Nat → Nat
  | 0, i => i
  | f + 1, i => if p i then i else fstF p f (i + 1)
theorem fstF_ge (p : Nat → Bool) : ∀ f i, i ≤ fstF p f i
  | 0, i => Nat.le_refl i
  | f + 1, i => by
    unfold fstF
    split
    · exact Nat.le_refl i
    · exact Nat.le_trans (Nat.le_succ i) (fstF_ge p f (i + 1))
theorem fstF_le (p : Nat → Bool) : ∀ f i, fstF p f i ≤ i + f
  | 0, i => Nat.le_refl i
  | f + 1, i => by
    unfold fstF
    split
    · omega
    · have := fstF_le p f (i + 1); omega
theorem fstF_yes (p : Nat → Bool) : ∀ f i, fstF p f i < i + f → p (fstF p f i) = true
  | 0, i, h => by unfold fstF at h; omega
  | f + 1, i, h => by
    unfold fstF at h ⊢
    split
    · assumption
    · rename_i h2
      rw [if_neg h2] at h
      exact fstF_yes p f (i + 1) (by omega)
theorem fstF_no (p : Nat → Bool) : ∀ f i k, i ≤ k → k < fstF p f i → p k = false
  | 0, i, k, h1, h2 => by unfold fstF at h2; omega
  | f + 1, i, k, h1, h2 => by
    unfold fstF at h2
    split at h2
    · omega
    · rename_i h3
      rcases Nat.lt_or_ge i k with q | q
      · exact fstF_no p f (i + 1) k q h2
      · have : k = i := by omega
        subst this
        simpa using h3
theorem fstF_of {p : Nat → Bool} {f i k : Nat} (h1 : i ≤ k) (h2 : k < i + f) (hk : p k = true) : fstF p f i ≤ k := by
  rcases Nat.lt_or_ge k (fstF p f i) with q | q
  · have := fstF_no p f i k h1 q
    rw [hk] at this; cases this
  · exact q
/-- the least k with p, where all below have it not -/
theorem fstF_is {p : Nat → Bool} {f k : Nat} (h2 : k < f) (hk : p k = true) (hn : ∀ j, j < k → p j = false) : fstF p f 0 = k := by
  have h1 := fstF_of (p := p) (f := f) (i := 0) (Nat.zero_le k) (by omega) hk
  rcases Nat.lt_or_ge (fstF p f 0) k with q | q
  · have := fstF_yes p f 0 (by omega)
    rw [hn _ q] at this; cases this
  · omega
theorem fstF_none {p : Nat → Bool} {f : Nat} (hn : ∀ j, j < f → p j = false) : fstF p f 0 = f := by
  have h1 := fstF_le p f 0
  rcases Nat.lt_or_ge (fstF p f 0) f with q | q
  · have := fstF_yes p f 0 (by omega)
    rw [hn _ q] at this; cases this
  · omega
def rch (n : Nat) (A : Nat → Nat → Bool) : Nat → Nat → Nat → Bool
  | 0, a, b => a == b
  | k + 1, a, b => rch n A k a b || (List.range n).any (fun c => rch n A k a c && (c != b && A c b))
theorem rch_s {n : Nat} {A : Nat → Nat → Bool} {k a b : Nat} : rch n A (k + 1) a b = true ↔ rch n A k a b = true ∨ ∃ c, c < n ∧ rch n A k a c = true ∧ c ≠ b ∧ A c b = true := by
  simp [rch, List.any_eq_true]
theorem rch_0 {n : Nat} {A : Nat → Nat → Bool} {a b : Nat} : rch n A 0 a b = true ↔ a = b := by simp [rch]
theorem rch_up {n : Nat} {A : Nat → Nat → Bool} {a b : Nat} : ∀ {k j : Nat}, k ≤ j → rch n A k a b = true → rch n A j a b = true := by
  intro k j h
  induction h with
  | refl => exact id
  | step _ ih => exact fun q => rch_s.mpr (Or.inl (ih q))
theorem rch_cat {n : Nat} {A : Nat → Nat → Bool} {a b c : Nat} {k : Nat} (h1 : rch n A k a b = true) : ∀ {j : Nat} {c : Nat}, rch n A j b c = true → rch n A (k + j) a c = true := by
  intro j
  induction j with
  | zero => intro c h2; have := rch_0.mp h2; subst this; exact h1
  | succ j ih =>
    intro c h2
    rcases rch_s.mp h2 with h | ⟨x, hx, h3, h4, h5⟩
    · exact rch_up (by omega) (ih h)
    · exact rch_s.mpr (Or.inr ⟨x, hx, ih h3, h4, h5⟩)
theorem rch_mono {n : Nat} {A B : Nat → Nat → Bool} (h : ∀ i j, i < n → j < n → A i j = true → B i j = true) {a : Nat} : ∀ {k b : Nat}, b < n → rch n A k a b = true → rch n B k a b = true := by
  intro k
  induction k with
  | zero => intro b _ h1; exact rch_0.mpr (rch_0.mp h1)
  | succ k ih =>
    intro b hb h1
    rcases rch_s.mp h1 with h2 | ⟨x, hx, h3, h4, h5⟩
    · exact rch_s.mpr (Or.inl (ih hb h2))
    · exact rch_s.mpr (Or.inr ⟨x, hx, ih hx h3, h4, h _ _ hx hb h5⟩)
theorem rch_1 {n : Nat} {A : Nat → Nat → Bool} {a b : Nat} (ha : a < n) (h : a ≠ b) (h2 : A a b = true) : rch n A 1 a b = true := rch_s.mpr (Or.inr ⟨a, ha, rch_0.mpr rfl, h, h2⟩)
def dst (n : Nat) (A : Nat → Nat → Bool) (a b : Nat) : Nat := fstF (fun k => rch n A k a b) 40 0
theorem dst_le (n : Nat) (A : Nat → Nat → Bool) (a b : Nat) : dst n A a b ≤ 40 := by have := fstF_le (fun k => rch n A k a b) 40 0; unfold dst; omega
theorem dst_yes {n : Nat} {A : Nat → Nat → Bool} {a b : Nat} (h : dst n A a b < 40) : rch n A (dst n A a b) a b = true := fstF_yes (fun k => rch n A k a b) 40 0 (by unfold dst at h; omega)
theorem dst_of {n : Nat} {A : Nat → Nat → Bool} {a b k : Nat} (h : rch n A k a b = true) : dst n A a b ≤ k := by
  rcases Nat.lt_or_ge k 40 with q | q
  · exact fstF_of (p := fun k => rch n A k a b) (Nat.zero_le k) (by omega) h
  · have := dst_le n A a b; omega
/-- what tells the steps: a matrix with these five marks is dst -/
def DOk (n : Nat) (A : Nat → Nat → Bool) (D : Nat → Nat → Nat) : Prop :=
  (∀ i, i < n → D i i = 0) ∧ (∀ i j, i < n → j < n → D i j ≤ 40) ∧ (∀ i j k, i < n → j < n → k < n → D i j ≤ D i k + D k j) ∧ (∀ i j, i < n → j < n → i ≠ j → A i j = true → D i j ≤ 1) ∧ (∀ i j, i < n → j < n → D i j < 40 → rch n A (D i j) i j = true)
theorem DOk.le {n : Nat} {A : Nat → Nat → Bool} {D : Nat → Nat → Nat} (h : DOk n A D) {i : Nat} (hi : i < n) : ∀ {k j : Nat}, j < n → rch n A k i j = true → D i j ≤ k := by
  intro k
  induction k with
  | zero => intro j hj h1; have := rch_0.mp h1; subst this; rw [h.1 i hi]; exact Nat.le_refl 0
  | succ k ih =>
    intro j hj h1
    rcases rch_s.mp h1 with h2 | ⟨x, hx, h3, h4, h5⟩
    · have := ih hj h2; omega
    · have e1 := ih hx h3
      have e2 := h.2.2.2.1 x j hx hj h4 h5
      have e3 := h.2.2.1 i j x hi hj hx
      omega
theorem DOk.eqd {n : Nat} {A : Nat → Nat → Bool} {D : Nat → Nat → Nat} (h : DOk n A D) {i j : Nat} (hi : i < n) (hj : j < n) : D i j = dst n A i j := by
  have h1 := h.2.1 i j hi hj
  have h2 := dst_le n A i j
  rcases Nat.lt_or_ge (D i j) 40 with q | q
  · have h3 := dst_of (h.2.2.2.2 i j hi hj q)
    have h4 := h.le hi hj (dst_yes (by omega : dst n A i j < 40))
    omega
  · rcases Nat.lt_or_ge (dst n A i j) 40 with q2 | q2
    · have h4 := h.le hi hj (dst_yes q2)
      omega
    · omega
theorem dst_ok (n : Nat) (A : Nat → Nat → Bool) : DOk n A (dst n A) := by
  refine ⟨fun i hi => ?_, fun i j _ _ => dst_le n A i j, fun i j k hi hj hk => ?_, fun i j hi hj hne hA => dst_of (rch_1 hi hne hA), fun i j _ _ h => dst_yes h⟩
  · have := dst_of (n := n) (A := A) (a := i) (b := i) (k := 0) (rch_0.mpr rfl); omega
  · rcases Nat.lt_or_ge (dst n A i k) 40 with q | q
    · rcases Nat.lt_or_ge (dst n A k j) 40 with q2 | q2
      · exact dst_of (rch_cat (c := j) (dst_yes q) (dst_yes q2))
      · have := dst_le n A i j; omega
    · have := dst_le n A i j; omega
theorem dst_self {n : Nat} {A : Nat → Nat → Bool} {i : Nat} : dst n A i i = 0 := by
  have := dst_of (n := n) (A := A) (a := i) (b := i) (k := 0) (rch_0.mpr rfl); omega
theorem dst_ne {n : Nat} {A : Nat → Nat → Bool} {i j : Nat} (h : i ≠ j) : 0 < dst n A i j := by
  rcases Nat.eq_zero_or_pos (dst n A i j) with q | q
  · have := dst_yes (n := n) (A := A) (a := i) (b := j) (by omega)
    rw [q] at this
    exact absurd (rch_0.mp this) h
  · exact q
theorem dst_one {n : Nat} {A : Nat → Nat → Bool} {i j : Nat} (hi : i < n) : dst n A i j = 1 ↔ i ≠ j ∧ A i j = true := by
  constructor
  · intro h
    have h1 : i ≠ j := fun e => by rw [e, dst_self] at h; omega
    have h2 := dst_yes (n := n) (A := A) (a := i) (b := j) (by omega)
    rw [h] at h2
    rcases rch_s.mp h2 with h3 | ⟨c, hc, h3, h4, h5⟩
    · exact absurd (rch_0.mp h3) h1
    · have := rch_0.mp h3; subst this
      exact ⟨h1, h5⟩
  · intro ⟨h1, h2⟩
    have h3 := dst_of (rch_1 hi h1 h2)
    have h4 := dst_ne (n := n) (A := A) h1
    omega
/-- one edge more -/
def dadd (D : Nat → Nat → Nat) (a b i j : Nat) : Nat := min (D i j) (min (D i a + 1 + D b j) (D i b + 1 + D a j))
theorem DOk.add {n : Nat} {A B : Nat → Nat → Bool} {D : Nat → Nat → Nat} (h : DOk n A D) {a b : Nat} (ha : a < n) (hb : b < n) (hab : a ≠ b) (hB : ∀ i j, i < n → j < n → (B i j = true ↔ A i j = true ∨ (i = a ∧ j = b) ∨ (i = b ∧ j = a))) : DOk n B (dadd D a b) := by
  have hm : ∀ {k i j}, j < n → rch n A k i j = true → rch n B k i j = true := fun hj q => rch_mono (fun i j hi hj q => (hB i j hi hj).mpr (Or.inl q)) hj q
  have eab : rch n B 1 a b = true := rch_1 ha hab ((hB a b ha hb).mpr (Or.inr (Or.inl ⟨rfl, rfl⟩)))
  have eba : rch n B 1 b a = true := rch_1 hb (Ne.symm hab) ((hB b a hb ha).mpr (Or.inr (Or.inr ⟨rfl, rfl⟩)))
  refine ⟨fun i hi => ?_, fun i j hi hj => ?_, fun i j k hi hj hk => ?_, fun i j hi hj hne hA => ?_, fun i j hi hj q => ?_⟩
  · have := h.1 i hi; unfold dadd; omega
  · have := h.2.1 i j hi hj; unfold dadd; omega
  · have t1 := h.2.2.1 i j k hi hj hk
    have t2 := h.2.2.1 i a k hi ha hk
    have t3 := h.2.2.1 i b k hi hb hk
    have t4 := h.2.2.1 b j k hb hj hk
    have t5 := h.2.2.1 a j k ha hj hk
    have t6 := h.2.2.1 i j a hi hj ha
    have t7 := h.2.2.1 i j b hi hj hb
    unfold dadd; omega
  · rcases (hB i j hi hj).mp hA with q | ⟨rfl, rfl⟩ | ⟨rfl, rfl⟩
    · have := h.2.2.2.1 i j hi hj hne q; unfold dadd; omega
    · have e1 := h.1 i hi; have e2 := h.1 j hj; unfold dadd; omega
    · have e1 := h.1 i hi; have e2 := h.1 j hj; unfold dadd; omega
  · have s := h.2.2.2.2
    have hc : dadd D a b i j = D i j ∨ dadd D a b i j = D i a + 1 + D b j ∨ dadd D a b i j = D i b + 1 + D a j := by unfold dadd; omega
    rcases hc with e | e | e
    · rw [e] at q ⊢; exact hm hj (s i j hi hj q)
    · rw [e] at q ⊢
      exact rch_cat (c := j) (rch_cat (c := b) (hm ha (s i a hi ha (by omega))) eab) (hm hj (s b j hb hj (by omega)))
    · rw [e] at q ⊢
      exact rch_cat (c := j) (rch_cat (c := a) (hm hb (s i b hi hb (by omega))) eba) (hm hj (s a j ha hj (by omega)))
/-- the marks while paths over nodes below v alone are known -/
def DV (n : Nat) (A : Nat → Nat → Bool) (v : Nat) (D : Nat → Nat → Nat) : Prop :=
  (∀ i, i < n → D i i = 0) ∧ (∀ i j, i < n → j < n → D i j ≤ 40) ∧ (∀ i j k, i < n → j < n → k < v → D i j ≤ D i k + D k j) ∧ (∀ i j, i < n → j < n → i ≠ j → A i j = true → D i j ≤ 1) ∧ (∀ i j, i < n → j < n → D i j < 40 → rch n A (D i j) i j = true)
def dvia (D : Nat → Nat → Nat) (v i j : Nat) : Nat := min (D i j) (D i v + D v j)
theorem DV.step {n : Nat} {A : Nat → Nat → Bool} {v : Nat} {D : Nat → Nat → Nat} (h : DV n A v D) (hv : v < n) : DV n A (v + 1) (dvia D v) := by
  refine ⟨fun i hi => ?_, fun i j hi hj => ?_, fun i j k hi hj hk => ?_, fun i j hi hj hne hA => ?_, fun i j hi hj q => ?_⟩
  · have := h.1 i hi; unfold dvia; omega
  · have := h.2.1 i j hi hj; unfold dvia; omega
  · have z := h.1 v hv
    rcases Nat.lt_or_ge k v with q | q
    · have t1 := h.2.2.1 i j k hi hj q
      have t2 := h.2.2.1 i v k hi hv q
      have t3 := h.2.2.1 v j k hv hj q
      unfold dvia; omega
    · have : k = v := by omega
      subst this
      unfold dvia; omega
  · have := h.2.2.2.1 i j hi hj hne hA; unfold dvia; omega
  · have s := h.2.2.2.2
    have hc : dvia D v i j = D i j ∨ dvia D v i j = D i v + D v j := by unfold dvia; omega
    rcases hc with e | e
    · rw [e] at q ⊢; exact s i j hi hj q
    · rw [e] at q ⊢
      exact rch_cat (c := j) (s i v hi hv (by omega)) (s v j hv hj (by omega))
theorem DV.all {n : Nat} {A : Nat → Nat → Bool} {D : Nat → Nat → Nat} (h : DV n A n D) : DOk n A D := h
theorem DV.init {n : Nat} {A : Nat → Nat → Bool} {D : Nat → Nat → Nat} (h : ∀ i j, i < n → j < n → D i j = if i = j then 0 else if A i j = true then 1 else 40) : DV n A 0 D := by
  refine ⟨fun i hi => by rw [h i i hi hi, if_pos rfl], fun i j hi hj => by rw [h i j hi hj]; split <;> (try split) <;> omega, fun i j k _ _ hk => by omega, fun i j hi hj hne hA => by rw [h i j hi hj, if_neg hne, if_pos hA]; omega, fun i j hi hj q => ?_⟩
  rw [h i j hi hj] at q ⊢
  by_cases e : i = j
  · rw [if_pos e]; exact rch_0.mpr e
  · rw [if_neg e] at q ⊢
    by_cases e2 : A i j = true
    · rw [if_pos e2]; exact rch_1 hi e e2
    · rw [if_neg e2] at q; omega
theorem rch_congr {n : Nat} {A B : Nat → Nat → Bool} (h : ∀ i j, i < n → j < n → A i j = B i j) {a : Nat} : ∀ {k b : Nat}, b < n → rch n A k a b = rch n B k a b := by
  intro k
  induction k with
  | zero => intro b _; rfl
  | succ k ih =>
    intro b hb
    have e : ∀ c, c < n → (rch n A k a c && (c != b && A c b)) = (rch n B k a c && (c != b && B c b)) := fun c hc => by rw [ih hc, h c b hc hb]
    show (rch n A k a b || (List.range n).any _) = (rch n B k a b || (List.range n).any _)
    rw [ih hb]
    congr 1
    rw [Bool.eq_iff_iff]
    simp only [List.any_eq_true, List.mem_range]
    constructor
    · rintro ⟨c, hc, q⟩; exact ⟨c, hc, by rw [← e c hc]; exact q⟩
    · rintro ⟨c, hc, q⟩; exact ⟨c, hc, by rw [e c hc]; exact q⟩
theorem dst_congr {n : Nat} {A B : Nat → Nat → Bool} (h : ∀ i j, i < n → j < n → A i j = B i j) {a b : Nat} (hb : b < n) : dst n A a b = dst n B a b := by
  unfold dst
  have e : (fun k => rch n A k a b) = (fun k => rch n B k a b) := funext fun k => rch_congr h hb
  rw [e]
end GR
section ST
/-- a set by a test -/
def setOf (f : Nat → Bool) : Nat → Nat
  | 0 => 0
  | n + 1 => setOf f n + if f n then 2 ^ n else 0
theorem setOf_lt (f : Nat → Bool) : ∀ n, setOf f n < 2 ^ n
  | 0 => by simp [setOf]
  | n + 1 => by
    have := setOf_lt f n
    unfold setOf
    rw [Nat.pow_succ]
    split <;> omega
theorem setOf_bit (f : Nat → Bool) : ∀ n i, (setOf f n).testBit i = (decide (i < n) && f i)
  | 0, i => by simp [setOf]
  | n + 1, i => by
    have hlt := setOf_lt f n
    have ih := setOf_bit f n i
    unfold setOf
    by_cases hf : f n = true
    · rw [if_pos hf, Nat.add_comm]
      rcases Nat.lt_trichotomy i n with q | q | q
      · rw [Nat.testBit_two_pow_add_gt q, ih]
        have h1 : i < n + 1 := by omega
        simp [q, h1]
      · subst q
        rw [Nat.testBit_two_pow_add_eq, ih]; simp [hf]
      · rw [Nat.testBit_lt_two_pow]
        · have : ¬ i < n + 1 := by omega
          simp [this]
        · have : 2 ^ n + setOf f n < 2 ^ (n + 1) := by rw [Nat.pow_succ]; omega
          exact Nat.lt_of_lt_of_le this (Nat.pow_le_pow_right (by decide) q)
    · rw [if_neg hf, Nat.add_zero, ih]
      by_cases e : i = n
      · subst e; simp at hf; simp [hf]
      · by_cases q : i < n
        · have h1 : i < n + 1 := by omega
          simp [q, h1]
        · have h1 : ¬ i < n + 1 := by omega
          simp [q, h1]
theorem setOf_congr {f g : Nat → Bool} : ∀ {n : Nat}, (∀ i, i < n → f i = g i) → setOf f n = setOf g n
  | 0, _ => rfl
  | n + 1, h => by unfold setOf; rw [setOf_congr (fun i hi => h i (by omega)), h n (by omega)]
theorem setOf_ext {f : Nat → Bool} {n s : Nat} (hs : s < 2 ^ n) (h : ∀ i, i < n → s.testBit i = f i) : s = setOf f n := by
  apply Nat.eq_of_testBit_eq
  intro i
  rw [setOf_bit]
  by_cases q : i < n
  · simp [q, h i q]
  · rw [Nat.testBit_lt_two_pow (Nat.lt_of_lt_of_le hs (Nat.pow_le_pow_right (by decide) (by omega)))]; simp [q]
/-- how many -/
def cntB (f : Nat → Bool) : Nat → Nat
  | 0 => 0
  | n + 1 => cntB f n + if f n then 1 else 0
theorem cntB_le (f : Nat → Bool) : ∀ n, cntB f n ≤ n
  | 0 => Nat.le_refl 0
  | n + 1 => by have := cntB_le f n; unfold cntB; split <;> omega
theorem cntB_congr {f g : Nat → Bool} : ∀ {n : Nat}, (∀ i, i < n → f i = g i) → cntB f n = cntB g n
  | 0, _ => rfl
  | n + 1, h => by unfold cntB; rw [cntB_congr (fun i hi => h i (by omega)), h n (by omega)]
def pcN (s : Nat) : Nat := cntB (fun i => s.testBit i) 8
theorem or_nI (a b : Nat) : nI a ||| nI b = nI (a ||| b) := by
  apply Int32.toBitVec_inj.mp
  show BitVec.ofNat 32 a ||| BitVec.ofNat 32 b = BitVec.ofNat 32 (a ||| b)
  rw [BitVec.ofNat_or]
theorem and_nI (a b : Nat) : nI a &&& nI b = nI (a &&& b) := by
  apply Int32.toBitVec_inj.mp
  show BitVec.ofNat 32 a &&& BitVec.ofNat 32 b = BitVec.ofNat 32 (a &&& b)
  rw [BitVec.ofNat_and]
theorem bit_nI : ∀ s, s < 256 → ∀ p, p < 8 → ((nI s >>> (nI p &&& 31)) &&& 1) = if s.testBit p then 1 else 0 := by decide +kernel
theorem shl_nI : ∀ p, p < 9 → (1 : Int32) <<< (nI p &&& 31) = nI (2 ^ p) := by decide +kernel
theorem pc_step : ∀ s, s < 256 → 0 < s → pcN (s &&& (s - 1)) + 1 = pcN s ∧ s &&& (s - 1) < s ∧ nI s &&& (nI s - 1) = nI (s &&& (s - 1)) := by decide +kernel
end ST
