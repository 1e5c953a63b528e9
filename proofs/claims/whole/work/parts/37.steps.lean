/-! the reference: besides, steps, relatives -/
def anyB (f : Nat → Bool) : Nat → Bool
  | 0 => false
  | n + 1 => anyB f n || f n
theorem anyB_iff {f : Nat → Bool} : ∀ {n : Nat}, anyB f n = true ↔ ∃ c, c < n ∧ f c = true
  | 0 => by simp [anyB]
  | n + 1 => by
    show (anyB f n || f n) = true ↔ _
    rw [Bool.or_eq_true, anyB_iff]
    refine ⟨fun h => ?_, fun h => ?_⟩
    · rcases h with ⟨c, h1, h2⟩ | h
      · exact ⟨c, by omega, h2⟩
      · exact ⟨n, by omega, h⟩
    · obtain ⟨c, h1, h2⟩ := h
      by_cases q : c = n
      · subst q; exact Or.inr h2
      · exact Or.inl ⟨c, by omega, h2⟩
def besP (r : Rw) (s a b : Nat) : Bool := s.testBit a && (a != b && adj r a b)
def besF (r : Rw) (s a b b2 : Nat) : Bool := anyB (fun c => besP r s c b2) a || (decide (b2 < b) && besP r s a b2)
def besN (r : Rw) (s : Nat) : Nat := setOf (fun b => anyB (fun c => besP r s c b) (nP r)) (nP r)
theorem bes_step {r : Rw} {s a b : Nat} (hb : b < nP r) : setOf (besF r s a (b + 1)) (nP r) = if besP r s a b = true then setOf (besF r s a b) (nP r) ||| 2 ^ b else setOf (besF r s a b) (nP r) := by
  split
  · rename_i h
    refine (setOf_ext (or_lt (setOf_lt _ _) hb) (fun i hi => ?_)).symm
    rw [Nat.testBit_or, setOf_bit, Nat.testBit_two_pow]
    unfold besF
    by_cases q : b = i
    · subst q; simp [h, hi]
    · have e : decide (i < b + 1) = decide (i < b) := by rw [decide_eq_decide]; omega
      simp [hi, q, e]
  · rename_i h
    refine setOf_congr (fun i hi => ?_)
    unfold besF
    by_cases q : b = i
    · subst q; simp at h; simp [h]
    · have e : decide (i < b + 1) = decide (i < b) := by rw [decide_eq_decide]; omega
      simp [e]
theorem bes_row {r : Rw} {s a : Nat} : setOf (besF r s a (nP r)) (nP r) = setOf (besF r s (a + 1) 0) (nP r) := by
  refine setOf_congr (fun i hi => ?_)
  unfold besF
  simp [hi, anyB]
theorem bes_end {r : Rw} {s : Nat} : setOf (besF r s (nP r) 0) (nP r) = besN r s := by
  refine setOf_congr (fun i hi => ?_)
  unfold besF; simp
theorem cnt_lt {f g : Nat → Bool} : ∀ {n : Nat}, (∀ i, i < n → f i = true → g i = true) → (∃ i, i < n ∧ f i = false ∧ g i = true) → cntB f n + 1 ≤ cntB g n
  | 0, _, ⟨i, h, _⟩ => by omega
  | n + 1, h, ⟨i, h1, h2, h3⟩ => by
    have mono : ∀ m, m ≤ n → cntB f m ≤ cntB g m := by
      intro m
      induction m with
      | zero => intro _; exact Nat.le_refl _
      | succ m ih =>
        intro hm
        have := ih (by omega)
        cases e : f m
        · rw [cntB_f e]; have := cntB_le g m; cases e2 : g m
          · rw [cntB_f e2]; omega
          · rw [cntB_t e2]; omega
        · rw [cntB_t e, cntB_t (h m (by omega) e)]; omega
    by_cases q : i = n
    · subst q
      rw [cntB_f h2, cntB_t h3]
      have := mono i (by omega)
      omega
    · have ih := cnt_lt (n := n) (fun j hj => h j (by omega)) ⟨i, by omega, h2, h3⟩
      cases e : f n
      · rw [cntB_f e]; cases e2 : g n
        · rw [cntB_f e2]; omega
        · rw [cntB_t e2]; omega
      · rw [cntB_t e, cntB_t (h n (by omega) e)]; omega
theorem pc_lt {s t : Nat} (hs : s < 256) (ht : t < 256) (h : ¬ s ||| t = s) : pcN s + 1 ≤ pcN (s ||| t) := by
  refine cnt_lt (fun i _ hi => by rw [Nat.testBit_or, hi]; rfl) ?_
  refine Decidable.byContradiction (fun hno => h ?_)
  refine Nat.eq_of_testBit_eq (fun i => ?_)
  rw [Nat.testBit_or]
  rcases Nat.lt_or_ge i 8 with z | z
  · cases e : s.testBit i
    · cases e2 : t.testBit i
      · rfl
      · exact absurd ⟨i, z, e, by rw [Nat.testBit_or, e2, e]; rfl⟩ hno
    · rfl
  · have h2 : t.testBit i = false := Nat.testBit_lt_two_pow (Nat.lt_of_lt_of_le ht (show (2 : Nat) ^ 8 ≤ 2 ^ i from Nat.pow_le_pow_right (by decide) z))
    rw [h2, Bool.or_false]
def comN (r : Rw) (i k : Nat) : Nat := setOf (fun b => rch (nP r) (adj r) k i b) (nP r)
theorem com_bit {r : Rw} {i k j : Nat} (hj : j < nP r) : (comN r i k).testBit j = rch (nP r) (adj r) k i j := by unfold comN; rw [setOf_bit]; simp [hj]
theorem com_s {r : Rw} (i k : Nat) : comN r i (k + 1) = comN r i k ||| besN r (comN r i k) := by
  refine (setOf_ext (Nat.or_lt_two_pow (setOf_lt _ _) (setOf_lt _ _)) (fun b hb => ?_)).symm
  have hB : (besN r (comN r i k)).testBit b = anyB (fun c => besP r (comN r i k) c b) (nP r) := by unfold besN; rw [setOf_bit]; simp [hb]
  show (comN r i k ||| besN r (comN r i k)).testBit b = rch (nP r) (adj r) (k + 1) i b
  rw [Nat.testBit_or, com_bit hb, hB, Bool.eq_iff_iff, rch_s, Bool.or_eq_true, anyB_iff]
  refine or_congr_right ⟨fun h => ?_, fun h => ?_⟩
  · obtain ⟨c, h1, h2⟩ := h
    unfold besP at h2
    rw [com_bit h1] at h2
    simp at h2
    exact ⟨c, h1, h2.1, h2.2.1, h2.2.2⟩
  · obtain ⟨c, h1, h2, h3, h4⟩ := h
    refine ⟨c, h1, ?_⟩
    unfold besP
    rw [com_bit h1]
    simp [h2, h3, h4]
theorem com_fix {r : Rw} {i k : Nat} (h : comN r i (k + 1) = comN r i k) : ∀ m, comN r i (k + m) = comN r i k
  | 0 => rfl
  | m + 1 => by
    show comN r i (k + m + 1) = _
    rw [com_s, com_fix h m, ← com_s]; exact h
theorem com_0 {r : Rw} {i : Nat} (hi : i < nP r) : comN r i 0 = 2 ^ i := by
  refine (setOf_ext (Nat.pow_lt_pow_right (by decide) hi) (fun b _ => ?_)).symm
  rw [Nat.testBit_two_pow]; rfl
