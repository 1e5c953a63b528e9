/-! the grammar: a reader by one byte ahead -/
abbrev PR : Type := Nat × List (Int32 × Int32) × Bool
def numP (b : Nat → Int32) : Nat → Nat → Nat → Nat × Nat
  | 0, i, v => (i, v)
  | f + 1, i, v => if 48 ≤ b i ∧ b i ≤ 57 then numP b f (i + 1) (v * 10 + (b i - 48).toNatClampNeg) else (i, v)
def lopP (b : Nat → Int32) (k : Nat) (sub : Nat → PR) : Nat → Nat → List (Int32 × Int32) → PR
  | 0, i, L => (i, L, true)
  | f + 1, i, L => if lvS (b i) = nI k then (if (sub (i + 1)).2.2 = true then (if k = 2 then ((sub (i + 1)).1, L ++ ((sub (i + 1)).2.1 ++ [(b i, 0)]), true) else lopP b k sub f (sub (i + 1)).1 (L ++ ((sub (i + 1)).2.1 ++ [(b i, 0)]))) else ((sub (i + 1)).1, L, false)) else (i, L, true)
def levP (b : Nat → Int32) (U : Nat → PR) : Nat → Nat → PR
  | 0, i => U i
  | j + 1, i => if (levP b U j i).2.2 = true then lopP b (4 - j) (levP b U j) 61 (levP b U j i).1 (levP b U j i).2.1 else levP b U j i
def baseP (b : Nat → Int32) (w : Nat) (i : Nat) (o : PR) : PR := if 48 ≤ b i ∧ b i ≤ 57 then ((numP b 4 i 0).1, [(1, nI (numP b 4 i 0).2)], true) else if 0 ≤ nmS w (b i) then (i + 1, [(2, nmS w (b i))], true) else o
def untP (b : Nat → Int32) (w : Nat) : Nat → Nat → PR
  | 0, i => baseP b w i (i, [], false)
  | h + 1, i => baseP b w i (if b i = 33 then ((untP b w h (i + 1)).1, (untP b w h (i + 1)).2.1 ++ [(3, 0)], (untP b w h (i + 1)).2.2) else if b i = 40 then (if (levP b (untP b w h) 5 (i + 1)).2.2 = true then (if b (levP b (untP b w h) 5 (i + 1)).1 = 41 then ((levP b (untP b w h) 5 (i + 1)).1 + 1, (levP b (untP b w h) 5 (i + 1)).2.1, true) else ((levP b (untP b w h) 5 (i + 1)).1, [], false)) else levP b (untP b w h) 5 (i + 1)) else (i, [], false))
def okL : Nat → List (Int32 × Int32) → Prop
  | _, [] => True
  | d, x :: t => opOk x.1 x.2 d ∧ okL (dpS x.1 d) t
def dpL : Nat → List (Int32 × Int32) → Nat
  | d, [] => d
  | d, x :: t => dpL (dpS x.1 d) t
theorem okL_app : ∀ (L M : List (Int32 × Int32)) (d : Nat), okL d L → okL (dpL d L) M → okL d (L ++ M)
  | [], _, _, _, h => h
  | x :: t, M, d, h, h2 => ⟨h.1, okL_app t M _ h.2 h2⟩
theorem dpL_app : ∀ (L M : List (Int32 × Int32)) (d : Nat), dpL d (L ++ M) = dpL (dpL d L) M
  | [], _, _ => rfl
  | x :: t, M, d => dpL_app t M _
/-- a tape: what lies behind its end is 0 -/
def Tb (b : Nat → Int32) (n : Nat) : Prop := (∀ i, n ≤ i → b i = 0) ∧ ∀ i, ∃ c, c < 256 ∧ b i = nI c
def stk (L : List (Int32 × Int32)) : Prop := ∀ d, okL d L ∧ dpL d L = d + 1
def gdP (n : Nat) (r : PR) (i : Nat) : Prop := i ≤ r.1 ∧ r.1 ≤ n ∧ (r.2.2 = true → i + r.2.1.length ≤ r.1 ∧ 1 ≤ r.2.1.length ∧ stk r.2.1)
theorem Tb.lt {b : Nat → Int32} {n i : Nat} (h : Tb b n) (hne : b i ≠ 0) : i < n := by
  rcases Nat.lt_or_ge i n with z | z
  · exact z
  · exact absurd (h.1 i z) hne
theorem dig_at : ∀ c, c < 256 → (48 ≤ nI c ∧ nI c ≤ 57) → nI c ≠ 0 ∧ 48 ≤ c ∧ c ≤ 57 ∧ (nI c - 48).toNatClampNeg = c - 48 ∧ nI c - 48 = nI (c - 48) := by decide +kernel
theorem nm_at : ∀ c, c < 256 → ∀ w, w < 2 → 0 ≤ nmS w (nI c) → nI c ≠ 0 ∧ (nmS w (nI c) = 0 ∨ nmS w (nI c) = 1 ∨ nmS w (nI c) = 2) := by decide +kernel
theorem lv_sgn {x : Int32} (h : lvS x ≠ -1) : sgn x := by
  unfold sgn
  by_cases h1 : x = 124
  · exact Or.inl h1
  by_cases h2 : x = 38
  · exact Or.inr (Or.inl h2)
  by_cases h3 : x = 60
  · exact Or.inr (Or.inr (Or.inl h3))
  by_cases h4 : x = 61
  · exact Or.inr (Or.inr (Or.inr (Or.inl h4)))
  by_cases h5 : x = 62
  · exact Or.inr (Or.inr (Or.inr (Or.inr (Or.inl h5))))
  by_cases h6 : x = 43
  · exact Or.inr (Or.inr (Or.inr (Or.inr (Or.inr (Or.inl h6)))))
  by_cases h7 : x = 45
  · exact Or.inr (Or.inr (Or.inr (Or.inr (Or.inr (Or.inr (Or.inl h7))))))
  by_cases h8 : x = 42
  · exact Or.inr (Or.inr (Or.inr (Or.inr (Or.inr (Or.inr (Or.inr (Or.inl h8)))))))
  by_cases h9 : x = 47
  · exact Or.inr (Or.inr (Or.inr (Or.inr (Or.inr (Or.inr (Or.inr (Or.inr (Or.inl h9))))))))
  by_cases h10 : x = 37
  · exact Or.inr (Or.inr (Or.inr (Or.inr (Or.inr (Or.inr (Or.inr (Or.inr (Or.inr h10))))))))
  · exact absurd (by unfold lvS; rw [if_neg h1, if_neg h2, if_neg h3, if_neg h4, if_neg h5, if_neg h6, if_neg h7, if_neg h8, if_neg h9, if_neg h10]) h
theorem lvl_at (c : Nat) (_ : c < 256) (k : Nat) (hk : k < 5) (h : lvS (nI c) = nI k) : nI c ≠ 0 ∧ sgn (nI c) := by
  have hne : lvS (nI c) ≠ -1 := by rw [h]; rcases (show k = 0 ∨ k = 1 ∨ k = 2 ∨ k = 3 ∨ k = 4 by omega) with rfl | rfl | rfl | rfl | rfl <;> decide
  exact ⟨fun z => hne (by rw [z]; decide), lv_sgn hne⟩
theorem num_rng {b : Nat → Int32} {n : Nat} (h : Tb b n) : ∀ f i v, i ≤ n → i ≤ (numP b f i v).1 ∧ (numP b f i v).1 ≤ n ∧ (numP b f i v).2 < (v + 1) * 10 ^ f
  | 0, i, v, hi => ⟨Nat.le_refl _, hi, by show v < _; simp⟩
  | f + 1, i, v, hi => by
    unfold numP
    split
    · rename_i z
      obtain ⟨c, hc, e⟩ := h.2 i
      rw [e] at z ⊢
      obtain ⟨d1, d2, d3, d4, -⟩ := dig_at c hc z
      have hlt := h.lt (i := i) (by rw [e]; exact d1)
      obtain ⟨a1, a2, a3⟩ := num_rng h f (i + 1) (v * 10 + (nI c - 48).toNatClampNeg) (by omega)
      refine ⟨by omega, a2, Nat.lt_of_lt_of_le a3 ?_⟩
      rw [d4, Nat.pow_succ, Nat.mul_comm (10 ^ f) 10, ← Nat.mul_assoc]
      exact Nat.mul_le_mul_right _ (by omega)
    · refine ⟨Nat.le_refl _, hi, ?_⟩
      show v < (v + 1) * 10 ^ (f + 1)
      have : 1 ≤ 10 ^ (f + 1) := Nat.one_le_pow _ _ (by decide)
      exact Nat.lt_of_lt_of_le (Nat.lt_succ_self v) (Nat.le_mul_of_pos_right _ this)
theorem num_adv {b : Nat → Int32} {n i : Nat} (h : Tb b n) (hi : i ≤ n) (hd : 48 ≤ b i ∧ b i ≤ 57) : i < (numP b 4 i 0).1 := by
  unfold numP
  rw [if_pos hd]
  obtain ⟨c, hc, e⟩ := h.2 i
  have hlt := h.lt (i := i) (by rw [e] at hd ⊢; exact (dig_at c hc hd).1)
  exact Nat.lt_of_lt_of_le (Nat.lt_succ_self i) (num_rng h 3 (i + 1) _ (by omega)).1
theorem stk_1 {w v : Int32} (h : (w = 1 ∧ ∃ q, q < 10000 ∧ v = nI q) ∨ (w = 2 ∧ (v = 0 ∨ v = 1 ∨ v = 2))) : stk [(w, v)] := fun d => by
  refine ⟨⟨?_, trivial⟩, ?_⟩
  · rcases h with z | z
    · exact Or.inl z
    · exact Or.inr (Or.inl z)
  · show dpS w d = d + 1
    unfold dpS; rw [if_pos (h.imp And.left And.left)]
theorem stk_d {L : List (Int32 × Int32)} (h : stk L) : stk (L ++ [(3, 0)]) := fun d => by
  obtain ⟨h1, h2⟩ := h d
  refine ⟨okL_app _ _ _ h1 ⟨Or.inr (Or.inr (Or.inl ⟨rfl, by omega⟩)), trivial⟩, ?_⟩
  rw [dpL_app, h2]; rfl
theorem stk_2 {L M : List (Int32 × Int32)} {w v : Int32} (h : stk L) (hM : stk M) (hw : sgn w) : stk (L ++ (M ++ [(w, v)])) := fun d => by
  obtain ⟨h1, h2⟩ := h d
  obtain ⟨h3, h4⟩ := hM (d + 1)
  obtain ⟨n1, n2, n3, -⟩ := sgn_ne hw
  have hd : dpS w (d + 1 + 1) = d + 1 := by unfold dpS; rw [if_neg (by simp [n1, n2]), if_neg n3]; rfl
  refine ⟨okL_app _ _ _ h1 (by rw [h2]; exact okL_app _ _ _ h3 (by rw [h4]; exact ⟨Or.inr (Or.inr (Or.inr ⟨hw, by omega⟩)), trivial⟩)), ?_⟩
  rw [dpL_app, dpL_app, h2, h4]; exact hd
theorem lop_gd {b : Nat → Int32} {n k : Nat} (h : Tb b n) (hk : k < 5) {sub : Nat → PR} (hs : ∀ i, i ≤ n → gdP n (sub i) i) (i0 : Nat) : ∀ f i L, i ≤ n → (i0 ≤ i ∧ i0 + L.length ≤ i ∧ 1 ≤ L.length ∧ stk L) → gdP n (lopP b k sub f i L) i0
  | 0, i, L, hi, hL => ⟨hL.1, hi, fun _ => hL.2⟩
  | f + 1, i, L, hi, hL => by
    unfold lopP
    split
    · rename_i z
      obtain ⟨c, hc, e⟩ := h.2 i
      rw [e] at z
      obtain ⟨l1, l2⟩ := lvl_at c hc k hk z
      have hlt := h.lt (i := i) (by rw [e]; exact l1)
      obtain ⟨s1, s2, s3⟩ := hs (i + 1) (by omega)
      split
      · rename_i ok
        obtain ⟨s4, s5, s6⟩ := s3 ok
        have hst : stk (L ++ ((sub (i + 1)).2.1 ++ [(b i, 0)])) := stk_2 hL.2.2.2 s6 (by rw [e]; exact l2)
        have hlen : (L ++ ((sub (i + 1)).2.1 ++ [(b i, 0)])).length = L.length + (sub (i + 1)).2.1.length + 1 := by simp; omega
        split
        · exact ⟨by show i0 ≤ (sub (i + 1)).1; omega, s2, fun _ => ⟨by show i0 + (L ++ ((sub (i + 1)).2.1 ++ [(b i, 0)])).length ≤ (sub (i + 1)).1; rw [hlen]; omega, by show 1 ≤ (L ++ ((sub (i + 1)).2.1 ++ [(b i, 0)])).length; rw [hlen]; omega, hst⟩⟩
        · exact lop_gd h hk hs i0 f (sub (i + 1)).1 _ s2 ⟨by omega, by rw [hlen]; omega, by rw [hlen]; omega, hst⟩
      · exact ⟨by show i0 ≤ (sub (i + 1)).1; omega, s2, fun z => absurd z Bool.false_ne_true⟩
    · exact ⟨hL.1, hi, fun _ => hL.2⟩
theorem lev_gd {b : Nat → Int32} {n : Nat} (h : Tb b n) {U : Nat → PR} (hU : ∀ i, i ≤ n → gdP n (U i) i) : ∀ j, j ≤ 5 → ∀ i, i ≤ n → gdP n (levP b U j i) i
  | 0, _ => hU
  | j + 1, hj => fun i hi => by
    have ih := lev_gd h hU j (by omega)
    unfold levP
    split
    · rename_i ok
      obtain ⟨a1, a2, a3⟩ := ih i hi
      exact lop_gd h (by omega) ih i 61 _ _ a2 ⟨a1, a3 ok⟩
    · exact ih i hi
theorem base_gd {b : Nat → Int32} {n w i : Nat} (h : Tb b n) (hw : w < 2) (hi : i ≤ n) {o : PR} (ho : gdP n o i) : gdP n (baseP b w i o) i := by
  unfold baseP
  split
  · rename_i z
    obtain ⟨a1, a2, a3⟩ := num_rng h 4 i 0 hi
    have := num_adv h hi z
    exact ⟨a1, a2, fun _ => ⟨by show i + 1 ≤ _; omega, Nat.le_refl _, stk_1 (Or.inl ⟨rfl, _, by simpa using a3, rfl⟩)⟩⟩
  · split
    · rename_i z
      obtain ⟨c, hc, e⟩ := h.2 i
      rw [e] at z
      obtain ⟨n1, n2⟩ := nm_at c hc w hw z
      have hlt := h.lt (i := i) (by rw [e]; exact n1)
      exact ⟨Nat.le_succ i, by show i + 1 ≤ n; omega, fun _ => ⟨Nat.le_refl _, Nat.le_refl _, stk_1 (Or.inr ⟨rfl, by rw [e]; exact n2⟩)⟩⟩
    · exact ho
theorem unt_gd {b : Nat → Int32} {n w : Nat} (h : Tb b n) (hw : w < 2) : ∀ h0 i, i ≤ n → gdP n (untP b w h0 i) i
  | 0, i, hi => base_gd h hw hi ⟨Nat.le_refl _, hi, fun z => absurd z Bool.false_ne_true⟩
  | h0 + 1, i, hi => by
    have ih := unt_gd h hw h0
    have fl : gdP n (i, [], false) i := ⟨Nat.le_refl _, hi, fun z => absurd z Bool.false_ne_true⟩
    unfold untP
    refine base_gd h hw hi ?_
    split
    · rename_i z
      have hlt := h.lt (i := i) (by rw [z]; decide)
      obtain ⟨a1, a2, a3⟩ := ih (i + 1) (by omega)
      refine ⟨by show i ≤ (untP b w h0 (i + 1)).1; omega, a2, fun ok => ?_⟩
      obtain ⟨b1, b2, b3⟩ := a3 ok
      have hlen : ((untP b w h0 (i + 1)).2.1 ++ [((3 : Int32), (0 : Int32))]).length = (untP b w h0 (i + 1)).2.1.length + 1 := by simp
      exact ⟨by show i + ((untP b w h0 (i + 1)).2.1 ++ [((3 : Int32), (0 : Int32))]).length ≤ (untP b w h0 (i + 1)).1; omega, by show 1 ≤ ((untP b w h0 (i + 1)).2.1 ++ [((3 : Int32), (0 : Int32))]).length; omega, stk_d b3⟩
    · split
      · rename_i z
        have hlt := h.lt (i := i) (by rw [z]; decide)
        obtain ⟨a1, a2, a3⟩ := lev_gd h ih 5 (by decide) (i + 1) (by omega)
        split
        · rename_i ok
          obtain ⟨b1, b2, b3⟩ := a3 ok
          split
          · rename_i z2
            have hlt2 := h.lt (i := (levP b (untP b w h0) 5 (i + 1)).1) (by rw [z2]; decide)
            exact ⟨by show i ≤ (levP b (untP b w h0) 5 (i + 1)).1 + 1; omega, by show (levP b (untP b w h0) 5 (i + 1)).1 + 1 ≤ n; omega, fun _ => ⟨by show i + (levP b (untP b w h0) 5 (i + 1)).2.1.length ≤ (levP b (untP b w h0) 5 (i + 1)).1 + 1; omega, b2, b3⟩⟩
          · exact ⟨by show i ≤ (levP b (untP b w h0) 5 (i + 1)).1; omega, a2, fun q => absurd q Bool.false_ne_true⟩
        · rename_i ok
          exact ⟨by omega, a2, fun q => absurd q ok⟩
      · exact fl
