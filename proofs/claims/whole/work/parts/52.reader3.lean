/-! the reference's reader against the grammar -/
def numR (b : Nat → Int32) (i : Nat) : PR := if 48 ≤ b i ∧ b i ≤ 57 then ((numP b 4 i 0).1, [(1, nI (numP b 4 i 0).2)], true) else (i, [], false)
theorem unt_num {b : Nat → Int32} {w i : Nat} (h1 : ¬ 0 ≤ nmS w (b i)) (h2 : ¬ b i = 33) (h3 : ¬ b i = 40) : ∀ h, untP b w h i = numR b i
  | 0 => by unfold untP baseP numR; rw [if_neg h1]
  | h + 1 => by
    show baseP b w i (if b i = 33 then _ else _) = numR b i
    unfold baseP numR
    rw [if_neg h1, if_neg h2, if_neg h3]
theorem nm_dig : ∀ c, c < 256 → ∀ w, w < 2 → 0 ≤ nmS w (nI c) → ¬ (48 ≤ nI c ∧ nI c ≤ 57) := by decide +kernel
theorem unt_nam {b : Nat → Int32} {n w i : Nat} (hT : Tb b n) (hw : w < 2) (h1 : 0 ≤ nmS w (b i)) : ∀ h, untP b w h i = (i + 1, [(2, nmS w (b i))], true) := by
  obtain ⟨c, hc, ec⟩ := hT.2 i
  have hd : ¬ (48 ≤ b i ∧ b i ≤ 57) := by rw [ec] at h1 ⊢; exact nm_dig c hc w hw h1
  intro h
  cases h with
  | zero => unfold untP baseP; rw [if_neg hd, if_pos h1]
  | succ h =>
    show baseP b w i (if b i = 33 then _ else _) = _
    unfold baseP; rw [if_neg hd, if_pos h1]
theorem nm_33 : ∀ w, w < 2 → ¬ 0 ≤ nmS w 33 ∧ ¬ 0 ≤ nmS w 40 := by decide
theorem unt_33 {b : Nat → Int32} {w i h : Nat} (hw : w < 2) (hb : b i = 33) : untP b w (h + 1) i = ((untP b w h (i + 1)).1, (untP b w h (i + 1)).2.1 ++ [(3, 0)], (untP b w h (i + 1)).2.2) := by
  show baseP b w i (if b i = 33 then _ else _) = _
  unfold baseP
  rw [if_neg (by rw [hb]; decide), if_neg (by rw [hb]; exact (nm_33 w hw).1), if_pos hb]
theorem unt_40 {b : Nat → Int32} {w i h : Nat} (hw : w < 2) (hb : b i = 40) : untP b w (h + 1) i = (if (levP b (untP b w h) 5 (i + 1)).2.2 = true then (if b (levP b (untP b w h) 5 (i + 1)).1 = 41 then ((levP b (untP b w h) 5 (i + 1)).1 + 1, (levP b (untP b w h) 5 (i + 1)).2.1, true) else ((levP b (untP b w h) 5 (i + 1)).1, [], false)) else levP b (untP b w h) 5 (i + 1)) := by
  show baseP b w i (if b i = 33 then _ else _) = _
  unfold baseP
  rw [if_neg (by rw [hb]; decide), if_neg (by rw [hb]; exact (nm_33 w hw).2), if_neg (by rw [hb]; decide), if_pos hb]
theorem unt_00 {b : Nat → Int32} {w i : Nat} (hw : w < 2) (hb : b i = 33 ∨ b i = 40) : untP b w 0 i = (i, [], false) := by
  unfold untP baseP
  rcases hb with hb | hb
  · rw [if_neg (by rw [hb]; decide), if_neg (by rw [hb]; exact (nm_33 w hw).1)]
  · rw [if_neg (by rw [hb]; decide), if_neg (by rw [hb]; exact (nm_33 w hw).2)]
theorem lop_no {b : Nat → Int32} {k : Nat} {S : Nat → PR} {f p : Nat} {A : List (Int32 × Int32)} (h : ¬ lvS (b p) = nI k) : lopP b k S (f + 1) p A = (p, A, true) := if_neg h
theorem lop_ok {b : Nat → Int32} {k : Nat} {S : Nat → PR} {f p : Nat} {A : List (Int32 × Int32)} (h : lvS (b p) = nI k) (ok : (S (p + 1)).2.2 = true) (hk : ¬ k = 2) : lopP b k S (f + 1) p A = lopP b k S f (S (p + 1)).1 (A ++ ((S (p + 1)).2.1 ++ [(b p, 0)])) := by
  show (if lvS (b p) = nI k then _ else _) = _
  rw [if_pos h, if_pos ok, if_neg hk]
theorem lop_2 {b : Nat → Int32} {S : Nat → PR} {f p : Nat} {A : List (Int32 × Int32)} (h : lvS (b p) = nI 2) (ok : (S (p + 1)).2.2 = true) : lopP b 2 S (f + 1) p A = ((S (p + 1)).1, A ++ ((S (p + 1)).2.1 ++ [(b p, 0)]), true) := by
  show (if lvS (b p) = nI 2 then _ else _) = _
  rw [if_pos h, if_pos ok, if_pos rfl]
theorem lop_bad {b : Nat → Int32} {k : Nat} {S : Nat → PR} {f p : Nat} {A : List (Int32 × Int32)} (h : lvS (b p) = nI k) (no : ¬ (S (p + 1)).2.2 = true) : lopP b k S (f + 1) p A = ((S (p + 1)).1, A, false) := by
  show (if lvS (b p) = nI k then _ else _) = _
  rw [if_pos h, if_neg no]
theorem lev_ok {b : Nat → Int32} {U : Nat → PR} {j i k : Nat} (hk : 4 - j = k) (ok : (levP b U j i).2.2 = true) : levP b U (j + 1) i = lopP b k (levP b U j) 61 (levP b U j i).1 (levP b U j i).2.1 := by
  subst hk
  show (if (levP b U j i).2.2 = true then _ else _) = _
  rw [if_pos ok]
theorem lev_no {b : Nat → Int32} {U : Nat → PR} {j i : Nat} (no : ¬ (levP b U j i).2.2 = true) : levP b U (j + 1) i = levP b U j i := by
  show (if (levP b U j i).2.2 = true then _ else _) = _
  rw [if_neg no]
theorem sg4 : ∀ c, c < 256 → (lvS (nI c) = nI 4 ↔ nI c = 42 ∨ nI c = 47 ∨ nI c = 37) := by decide +kernel
theorem sg3 : ∀ c, c < 256 → (lvS (nI c) = nI 3 ↔ nI c = 43 ∨ nI c = 45) := by decide +kernel
theorem sg2 : ∀ c, c < 256 → (lvS (nI c) = nI 2 ↔ nI c = 60 ∨ nI c = 61 ∨ nI c = 62) := by decide +kernel
theorem sg1 : ∀ c, c < 256 → (lvS (nI c) = nI 1 ↔ nI c = 38) := by decide +kernel
theorem sg0 : ∀ c, c < 256 → (lvS (nI c) = nI 0 ↔ nI c = 124) := by decide +kernel
theorem MdP.l {τ s : z_M} {r : Rw} {w o : Nat} {L : List (Int32 × Int32)} {R : PR} (h : MdP τ r w o L R s) : ∃ q, q ≤ 60 ∧ s 0 12 = nI q := h.2.1.2.2.2.2
theorem len_q {s : z_M} {L : List (Int32 × Int32)} {q : Nat} (h : MdL s L) (hL : L.length ≤ 60) (hq : q ≤ 60) (e : s 0 12 = nI q) : q = L.length := eq_nI (e.symm.trans h.1) (by omega) (by omega)
set_option maxHeartbeats 1000000 in
set_option maxRecDepth 10000 in
theorem kX10_number {l : Launch} {E : z_E} (σ : z_M) {r : Rw} {w : Nat} (hx : VX r) (hw : w < 2) {o i : Nat} {L : List (Int32 × Int32)} (hi : i ≤ tN r) (hL : L.length ≤ i) (hB : MdB σ r w o i) (hLd : MdL σ L) : z_C l E shM 1 yX10_number cX10_number 3 none [.ref (z_ad E 0)] σ (z_Pv (MdP σ r w o L (numR (tbR r) i))) := by
  refine z_intro iX10_number (Nat.le_of_ble_eq_true rfl) (fun K F => ?_)
  have h60 := hx.2.1
  have hT := tbR_T hx
  have loop4 : ∀ (f : Nat) (j q v : Nat) (τ : z_M) (_ : 4 < j + f) (_ : j ≤ 4) (_ : q ≤ tN r) (_ : q = i + j) (_ : numP (tbR r) (4 - j) q v = numP (tbR r) 4 i 0) (_ : MG σ τ) (_ : MdB τ r w o q) (_ : MdL τ L) (_ : v < 10 ^ j) (_ : 0 < j → (48 ≤ tbR r i ∧ tbR r i ≤ 57)), z_X l K E shM 1 3 (z_Pv (MdP σ r w o L (numR (tbR r) i))) 4 [(0, .ref (z_ad E 0)), (1, .int (nI v)), (2, .int (nI j))] [] τ := by
    intro f
    induction f with
    | zero =>
      intro j q v τ hf hj hq hqi hN hG hB2 hL2 hv hd0
      omega
    | succ f ih =>
      intro j q v τ hf hj hq hqi hN hG hB2 hL2 hv hd0
      have h4 : (10 : Nat) ^ j ≤ 10 ^ 4 := Nat.pow_le_pow_right (by decide) hj
      obtain ⟨c, hc, ec⟩ := hT.2 q
      refine z_iload_n F dX10_number_4 2 rfl 5 rfl ?_
      refine z_iconst F dX10_number_5 4 (by decide) 6 rfl ?_
      refine z_icmp_ge F dX10_number_6 52 (by decide) 9 rfl (fun h6 => ?_) (fun h6 => ?_)
      · skip
        refine z_aload_n F dX10_number_52 0 rfl 53 rfl ?_
        refine z_iload_n F dX10_number_53 2 rfl 54 rfl ?_
        refine z_if_ne F dX10_number_54 61 (by decide) 57 rfl (fun h54 => ?_) (fun h54 => ?_)
        · skip
          refine z_iconst F dX10_number_61 0 (by decide) 62 rfl ?_
          refine z_putZ F zc9 dX10_number_62 rfl 15 (by decide) (by decide) (.inl m_945) rfl rfl z_pZ rfl rfl 65 rfl ?_
          refine z_aload_n F dX10_number_65 0 rfl 66 rfl ?_
          refine z_iconst F dX10_number_66 1 (by decide) 67 rfl ?_
          refine z_iload_n F dX10_number_67 1 rfl 68 rfl ?_
          refine z_callVu F dX10_number_68 m_1161 iX10_lays jX10_lays rfl zc9 rfl (kX10_lays _ (q := L.length) (by omega) (by rw [u2_k (by decide)]; exact hL2.1) _ _) rfl (by decide) (Nat.le_of_ble_eq_true rfl) 71 rfl ?_
          refine z_rv F dX10_number_71 ?_
          have hj4 : j = 4 := by have := le_nI (a := 4) h6 (by decide) (by omega); omega
          have e : numP (tbR r) 4 i 0 = (q, v) := by
            rw [show 4 - j = 0 by omega] at hN
            exact hN.symm
          have hj0 : 0 < j := by
            rcases Nat.eq_zero_or_pos j with z | z
            · subst z; exact absurd rfl h54
            · exact z
          have er : numR (tbR r) i = (q, [(1, nI v)], true) := by unfold numR; rw [if_pos (hd0 hj0), e]
          rw [er]
          exact ⟨lay_G (hG.u0 (by decide)), lay_B hB2.bad (by rw [u2_k (by decide)]; exact hL2.1), by rw [lay_15, u2_same]; rfl, fun _ => lay_L (hL2.u0 (by decide)) (by omega)⟩
        · skip
          have hj4 : j = 4 := by have := le_nI (a := 4) h6 (by decide) (by omega); omega
          subst hj4
          exact absurd h54 (by decide)
      · skip
        have hj4 : j < 4 := nle_nI h6 (by omega) (by omega)
        have e4 : 4 - j = (4 - (j + 1)) + 1 := by omega
        refine z_aload_n F dX10_number_9 0 rfl 10 rfl ?_
        refine z_callVp F dX10_number_10 m_1153 iX10_look jX10_look rfl zc9 rfl (kX10_look τ hx hB2 hq) rfl (by decide) (Nat.le_of_ble_eq_true rfl) 13 rfl ?_
        refine z_bipush F dX10_number_13 48 (by decide) 15 rfl ?_
        refine z_bipush F dX10_number_15 57 (by decide) 17 rfl ?_
        refine z_callSp F dX10_number_17 m_998 iX10_in m_999 rfl (kX10_in τ _ _ _) rfl (by decide) (Nat.le_of_ble_eq_true rfl) 20 rfl ?_
        refine z_if_eq F dX10_number_20 52 (by decide) 23 rfl (fun h20 => ?_) (fun h20 => ?_)
        · skip
          have h20 := bI0.mp h20
          refine z_aload_n F dX10_number_52 0 rfl 53 rfl ?_
          refine z_iload_n F dX10_number_53 2 rfl 54 rfl ?_
          refine z_if_ne F dX10_number_54 61 (by decide) 57 rfl (fun h54 => ?_) (fun h54 => ?_)
          · skip
            refine z_iconst F dX10_number_61 0 (by decide) 62 rfl ?_
            refine z_putZ F zc9 dX10_number_62 rfl 15 (by decide) (by decide) (.inl m_945) rfl rfl z_pZ rfl rfl 65 rfl ?_
            refine z_aload_n F dX10_number_65 0 rfl 66 rfl ?_
            refine z_iconst F dX10_number_66 1 (by decide) 67 rfl ?_
            refine z_iload_n F dX10_number_67 1 rfl 68 rfl ?_
            refine z_callVu F dX10_number_68 m_1161 iX10_lays jX10_lays rfl zc9 rfl (kX10_lays _ (q := L.length) (by omega) (by rw [u2_k (by decide)]; exact hL2.1) _ _) rfl (by decide) (Nat.le_of_ble_eq_true rfl) 71 rfl ?_
            refine z_rv F dX10_number_71 ?_
            have hd : ¬ (48 ≤ tbR r q ∧ tbR r q ≤ 57) := fun z => h20 (lk_dig.mpr z)
            have e : numP (tbR r) 4 i 0 = (q, v) := by
              rw [← hN, e4]
              unfold numP
              rw [if_neg hd]
            have hj0 : 0 < j := by
              rcases Nat.eq_zero_or_pos j with z | z
              · subst z; exact absurd rfl h54
              · exact z
            have er : numR (tbR r) i = (q, [(1, nI v)], true) := by unfold numR; rw [if_pos (hd0 hj0), e]
            rw [er]
            exact ⟨lay_G (hG.u0 (by decide)), lay_B hB2.bad (by rw [u2_k (by decide)]; exact hL2.1), by rw [lay_15, u2_same]; rfl, fun _ => lay_L (hL2.u0 (by decide)) (by omega)⟩
          · skip
            refine z_iconst F dX10_number_57 1 (by decide) 58 rfl ?_
            refine z_goto F dX10_number_58 62 (by decide) ?_
            refine z_putZ F zc9 dX10_number_62 rfl 15 (by decide) (by decide) (.inl m_945) rfl rfl z_pZ rfl rfl 65 rfl ?_
            refine z_aload_n F dX10_number_65 0 rfl 66 rfl ?_
            refine z_iconst F dX10_number_66 1 (by decide) 67 rfl ?_
            refine z_iload_n F dX10_number_67 1 rfl 68 rfl ?_
            refine z_callVu F dX10_number_68 m_1161 iX10_lays jX10_lays rfl zc9 rfl (kX10_lays _ (q := L.length) (by omega) (by rw [u2_k (by decide)]; exact hL2.1) _ _) rfl (by decide) (Nat.le_of_ble_eq_true rfl) 71 rfl ?_
            refine z_rv F dX10_number_71 ?_
            have hd : ¬ (48 ≤ tbR r q ∧ tbR r q ≤ 57) := fun z => h20 (lk_dig.mpr z)
            have e : numP (tbR r) 4 i 0 = (q, v) := by
              rw [← hN, e4]
              unfold numP
              rw [if_neg hd]
            have hj0 : j = 0 := eq_nI (b := 0) h54 (by omega) (by decide)
            subst hj0
            have hqi2 : q = i := by omega
            subst hqi2
            have er : numR (tbR r) q = (q, [], false) := if_neg hd
            rw [er]
            exact ⟨lay_G (hG.u0 (by decide)), lay_B hB2.bad (by rw [u2_k (by decide)]; exact hL2.1), by rw [lay_15, u2_same]; rfl, fun z => absurd z Bool.false_ne_true⟩
        · skip
          have h20 := bI1.mp h20
          have hd := lk_dig.mp h20
          have hdc : 48 ≤ nI c ∧ nI c ≤ 57 := ec ▸ hd
          obtain ⟨d1, d2, d3, d4, d5⟩ := dig_at c hc hdc
          have hqn : q < tN r := hT.lt (i := q) (by rw [ec]; exact d1)
          refine z_bipush F dX10_number_23 10 (by decide) 25 rfl ?_
          refine z_iload_n F dX10_number_25 1 rfl 26 rfl ?_
          refine z_imul F dX10_number_26 27 rfl ?_
          rw [show (10 : Int32) = nI 10 from rfl, pk_mul]
          refine z_aload_n F dX10_number_27 0 rfl 28 rfl ?_
          refine z_callVp F dX10_number_28 m_1153 iX10_look jX10_look rfl zc9 rfl (kX10_look τ hx hB2 hq) rfl (by decide) (Nat.le_of_ble_eq_true rfl) 31 rfl ?_
          rw [lk_lt hqn, ec]
          refine z_iadd F dX10_number_31 32 rfl ?_
          refine z_bipush F dX10_number_32 48 (by decide) 34 rfl ?_
          refine z_isub F dX10_number_34 35 rfl ?_
          rw [nI_add, show (48 : Int32) = nI 48 from rfl, pk_sub (by omega), show 10 * v + c - 48 = v * 10 + (c - 48) by omega]
          refine z_istore_n F dX10_number_35 [(0, _), (1, _), (2, _)] rfl (by decide) 36 rfl ?_
          refine z_aload_n F dX10_number_36 0 rfl 37 rfl ?_
          refine z_dup F dX10_number_37 rfl 38 rfl ?_
          refine z_getI F zc9 dX10_number_38 rfl 13 (by decide) (by decide) (.inl m_943) rfl 41 rfl ?_
          rw [hB2.2.1]
          refine z_iconst F dX10_number_41 1 (by decide) 42 rfl ?_
          refine z_iadd F dX10_number_42 43 rfl ?_
          rw [nI_1]
          refine z_putI F zc9 dX10_number_43 rfl 13 (by decide) (by decide) (.inl m_943) rfl rfl z_pI 46 rfl ?_
          refine z_iinc F dX10_number_46 2 rfl 1 (by decide) [(0, _), (1, _), (2, _)] rfl (by decide) 49 rfl ?_
          refine z_goto F dX10_number_49 4 (by decide) ?_
          rw [nI_1]
          refine ih (j + 1) (q + 1) (v * 10 + (c - 48)) _ (by omega) (by omega) (by omega) (by omega) ?_ (hG.u0 (by decide)) hB2.adv (hL2.u0 (by decide)) ?_ (fun _ => ?_)
          · rw [← hN, e4]
            conv => rhs; unfold numP
            rw [if_pos hd, ec, d4]
          · rw [Nat.pow_succ]; omega
          · rcases Nat.eq_zero_or_pos j with z | z
            · rw [show i = q by omega]; exact hd
            · exact hd0 z
  refine z_iconst F dX10_number_0 0 (by decide) 1 rfl ?_
  refine z_istore_n F dX10_number_1 [(0, _), (1, _)] rfl (by decide) 2 rfl ?_
  refine z_iconst F dX10_number_2 0 (by decide) 3 rfl ?_
  refine z_istore_n F dX10_number_3 [(0, _), (1, _), (2, _)] rfl (by decide) 4 rfl ?_
  exact loop4 5 0 i 0 σ (by omega) (by omega) (by omega) (by omega) rfl MG.rf hB hLd (by decide) (fun z => by omega)
set_option maxHeartbeats 2000000 in
set_option maxRecDepth 10000 in
theorem kX10_one {l : Launch} {E : z_E} {r : Rw} {w : Nat} (hx : VX r) (hw : w < 2) {h : Nat} (hop : ∀ (s : Int32) (i : Nat) (L : List (Int32 × Int32)) (τ : z_M) (_ : i ≤ tN r) (_ : L.length ≤ i) (_ : MdB τ r w (5 - (h)) i) (_ : MdL τ L) (_ : τ 0 15 = 0) (_ : s = 33 ∨ s = 40) (_ : tbR r i = s), z_C l E shM (1 + 7 * (h)) yX10_opens cX10_opens 2 none [.ref (z_ad E 0), .int s] τ (z_Pv (MdP τ r w (5 - (h)) L (untP (tbR r) w (h) i)))) : ∀ (i : Nat) (L : List (Int32 × Int32)) (τ : z_M) (_ : i ≤ tN r) (_ : L.length ≤ i) (_ : MdB τ r w (5 - (h)) i) (_ : MdL τ L) (_ : τ 0 15 = 0), z_C l E shM (2 + 7 * (h)) yX10_one cX10_one 3 none [.ref (z_ad E 0)] τ (z_Pv (MdP τ r w (5 - (h)) L (untP (tbR r) w (h) i))) := by
  intro i L τ hi hL hB hLd h15
  have h60 := hx.2.1
  have hT := tbR_T hx
  refine z_intro iX10_one (Nat.le_of_ble_eq_true rfl) (fun K F => ?_)
  refine z_aload_n F dX10_one_0 0 rfl 1 rfl ?_
  refine z_callVp F dX10_one_1 m_1153 iX10_look jX10_look rfl zc9 rfl (kX10_look τ hx hB hi) rfl (by omega) (Nat.le_of_ble_eq_true rfl) 4 rfl ?_
  refine z_istore_n F dX10_one_4 [(0, _), (1, _)] rfl (by decide) 5 rfl ?_
  refine z_aload_n F dX10_one_5 0 rfl 6 rfl ?_
  refine z_iload_n F dX10_one_6 1 rfl 7 rfl ?_
  refine z_callVp F dX10_one_7 m_1157 iX10_nameOf jX10_nameOf rfl zc9 rfl (kX10_nameOf τ hw hB.2.2.2.1 _) rfl (by omega) (Nat.le_of_ble_eq_true rfl) 10 rfl ?_
  rw [nm_lk hw]
  refine z_istore_n F dX10_one_10 [(0, _), (1, _), (2, _)] rfl (by decide) 11 rfl ?_
  refine z_iload_n F dX10_one_11 2 rfl 12 rfl ?_
  refine z_if_lt F dX10_one_12 34 (by decide) 15 rfl (fun h12 => ?_) (fun h12 => ?_)
  · skip
    have hnm : ¬ 0 ≤ nmS w (tbR r i) := fun z => absurd h12 (i_nlt.mpr z)
    refine z_iload_n F dX10_one_34 1 rfl 35 rfl ?_
    refine z_bipush F dX10_one_35 33 (by decide) 37 rfl ?_
    refine z_icmp_eq F dX10_one_37 46 (by decide) 40 rfl (fun h37 => ?_) (fun h37 => ?_)
    · skip
      refine z_aload_n F dX10_one_46 0 rfl 47 rfl ?_
      refine z_iload_n F dX10_one_47 1 rfl 48 rfl ?_
      have hbs := (lk_eq (by decide) (by decide)).mp h37
      rw [h37]
      have hsg : (33 : Int32) = 33 ∨ (33 : Int32) = 40 := Or.inl rfl
      refine z_callVv F dX10_one_48 m_1165 iX10_opens jX10_opens rfl zc9 rfl (hop _ i L τ hi hL hB hLd h15 hsg hbs) rfl (by omega) (Nat.le_of_ble_eq_true rfl) 51 rfl (fun s48 c48 => ?_)
      refine z_goto F dX10_one_51 58 (by decide) ?_
      refine z_rv F dX10_one_58 ?_
      exact c48
    · skip
      refine z_iload_n F dX10_one_40 1 rfl 41 rfl ?_
      refine z_bipush F dX10_one_41 40 (by decide) 43 rfl ?_
      refine z_icmp_ne F dX10_one_43 54 (by decide) 46 rfl (fun h43 => ?_) (fun h43 => ?_)
      · skip
        refine z_aload_n F dX10_one_54 0 rfl 55 rfl ?_
        refine z_callVv F dX10_one_55 m_1169 iX10_number jX10_number rfl zc9 rfl (kX10_number τ hx hw hi hL hB hLd) rfl (by omega) (Nat.le_of_ble_eq_true rfl) 58 rfl (fun s55 c55 => ?_)
        refine z_rv F dX10_one_58 ?_
        rw [unt_num hnm (fun z => h37 ((lk_eq (by decide) (by decide)).mpr z)) (fun z => h43 ((lk_eq (by decide) (by decide)).mpr z)) h]
        exact c55
      · skip
        refine z_aload_n F dX10_one_46 0 rfl 47 rfl ?_
        refine z_iload_n F dX10_one_47 1 rfl 48 rfl ?_
        have hbs := (lk_eq (by decide) (by decide)).mp h43
        rw [h43]
        have hsg : (40 : Int32) = 33 ∨ (40 : Int32) = 40 := Or.inr rfl
        refine z_callVv F dX10_one_48 m_1165 iX10_opens jX10_opens rfl zc9 rfl (hop _ i L τ hi hL hB hLd h15 hsg hbs) rfl (by omega) (Nat.le_of_ble_eq_true rfl) 51 rfl (fun s48 c48 => ?_)
        refine z_goto F dX10_one_51 58 (by decide) ?_
        refine z_rv F dX10_one_58 ?_
        exact c48
  · skip
    have hnm : 0 ≤ nmS w (tbR r i) := i_nlt.mp h12
    have hin : i < tN r := by
      obtain ⟨c, hc, ec⟩ := hT.2 i
      exact hT.lt (i := i) (by rw [ec] at hnm ⊢; exact (nm_at c hc w hw hnm).1)
    refine z_aload_n F dX10_one_15 0 rfl 16 rfl ?_
    refine z_dup F dX10_one_16 rfl 17 rfl ?_
    refine z_getI F zc9 dX10_one_17 rfl 13 (by decide) (by decide) (.inl m_943) rfl 20 rfl ?_
    rw [hB.2.1]
    refine z_iconst F dX10_one_20 1 (by decide) 21 rfl ?_
    refine z_iadd F dX10_one_21 22 rfl ?_
    rw [nI_1]
    refine z_putI F zc9 dX10_one_22 rfl 13 (by decide) (by decide) (.inl m_943) rfl rfl z_pI 25 rfl ?_
    refine z_aload_n F dX10_one_25 0 rfl 26 rfl ?_
    refine z_iconst F dX10_one_26 2 (by decide) 27 rfl ?_
    refine z_iload_n F dX10_one_27 2 rfl 28 rfl ?_
    refine z_callVu F dX10_one_28 m_1161 iX10_lays jX10_lays rfl zc9 rfl (kX10_lays _ (q := L.length) (by omega) (by rw [u2_k (by decide)]; exact hLd.1) _ _) rfl (by omega) (Nat.le_of_ble_eq_true rfl) 31 rfl ?_
    refine z_goto F dX10_one_31 58 (by decide) ?_
    refine z_rv F dX10_one_58 ?_
    rw [unt_nam hT hw hnm h]
    exact ⟨lay_G (MG.rf.u0 (by decide)), lay_B hB.adv (by rw [u2_k (by decide)]; exact hLd.1), by rw [lay_15, u2_k (by decide), h15]; rfl, fun _ => lay_L (hLd.u0 (by decide)) (by omega)⟩
set_option maxHeartbeats 2000000 in
set_option maxRecDepth 10000 in
theorem kX10_opens0 {l : Launch} {E : z_E} {r : Rw} {w : Nat} (hx : VX r) (hw : w < 2)  : ∀ (s : Int32) (i : Nat) (L : List (Int32 × Int32)) (τ : z_M) (_ : i ≤ tN r) (_ : L.length ≤ i) (_ : MdB τ r w (5 - (0)) i) (_ : MdL τ L) (_ : τ 0 15 = 0) (_ : s = 33 ∨ s = 40) (_ : tbR r i = s), z_C l E shM (1 + 7 * (0)) yX10_opens cX10_opens 2 none [.ref (z_ad E 0), .int s] τ (z_Pv (MdP τ r w (5 - (0)) L (untP (tbR r) w (0) i))) := by
  intro s i L τ hi hL hB hLd h15 hsg hbs
  have h60 := hx.2.1
  have hT := tbR_T hx
  refine z_intro iX10_opens (Nat.le_of_ble_eq_true rfl) (fun K F => ?_)
  refine z_aload_n F dX10_opens_0 0 rfl 1 rfl ?_
  refine z_getI F zc9 dX10_opens_1 rfl 14 (by decide) (by decide) (.inl m_944) rfl 4 rfl ?_
  rw [hB.2.2.1]
  refine z_iconst F dX10_opens_4 5 (by decide) 5 rfl ?_
  refine z_icmp_ne F dX10_opens_5 14 (by decide) 8 rfl (fun h5 => ?_) (fun h5 => ?_)
  · skip
    exact absurd rfl h5
  · skip
    refine z_aload_n F dX10_opens_8 0 rfl 9 rfl ?_
    refine z_iconst F dX10_opens_9 1 (by decide) 10 rfl ?_
    refine z_putZ F zc9 dX10_opens_10 rfl 15 (by decide) (by decide) (.inl m_945) rfl rfl z_pZ rfl rfl 13 rfl ?_
    refine z_rv F dX10_opens_13 ?_
    rw [unt_00 hw (by rw [hbs]; exact hsg)]
    exact ⟨MG.rf.u0 (by decide), hB.bad, by rw [u2_same]; rfl, fun z => absurd z Bool.false_ne_true⟩
theorem lay_14 {τ : z_M} {q : Nat} {x v : Int32} : layM τ q x v 0 14 = τ 0 14 := by
  unfold layM; split
  · rw [u2_k (by decide), u2_o (by decide), u2_o (by decide)]
  · rfl
set_option maxHeartbeats 2000000 in
set_option maxRecDepth 10000 in
theorem kX10_opensS {l : Launch} {E : z_E} {r : Rw} {w : Nat} (hx : VX r) (hw : w < 2) {h : Nat} (hh : h < 5) (hU : ∀ (i : Nat) (L : List (Int32 × Int32)) (τ : z_M) (_ : i ≤ tN r) (_ : L.length ≤ i) (_ : MdB τ r w (5 - (h)) i) (_ : MdL τ L) (_ : τ 0 15 = 0), z_C l E shM (2 + 7 * (h)) yX10_one cX10_one 3 none [.ref (z_ad E 0)] τ (z_Pv (MdP τ r w (5 - (h)) L (untP (tbR r) w (h) i)))) (hV : ∀ (i : Nat) (L : List (Int32 × Int32)) (τ : z_M) (_ : i ≤ tN r) (_ : L.length ≤ i) (_ : MdB τ r w (5 - (h)) i) (_ : MdL τ L) (_ : τ 0 15 = 0), z_C l E shM (2 + 7 * (h) + 5) yX10_any cX10_any 1 none [.ref (z_ad E 0)] τ (z_Pv (MdP τ r w (5 - (h)) L (levP (tbR r) (untP (tbR r) w (h)) 5 i)))) : ∀ (s : Int32) (i : Nat) (L : List (Int32 × Int32)) (τ : z_M) (_ : i ≤ tN r) (_ : L.length ≤ i) (_ : MdB τ r w (5 - (h + 1)) i) (_ : MdL τ L) (_ : τ 0 15 = 0) (_ : s = 33 ∨ s = 40) (_ : tbR r i = s), z_C l E shM (1 + 7 * (h + 1)) yX10_opens cX10_opens 2 none [.ref (z_ad E 0), .int s] τ (z_Pv (MdP τ r w (5 - (h + 1)) L (untP (tbR r) w (h + 1) i))) := by
  intro s i L τ hi hL hB hLd h15 hsg hbs
  have h60 := hx.2.1
  have hT := tbR_T hx
  refine z_intro iX10_opens (Nat.le_of_ble_eq_true rfl) (fun K F => ?_)
  refine z_aload_n F dX10_opens_0 0 rfl 1 rfl ?_
  refine z_getI F zc9 dX10_opens_1 rfl 14 (by decide) (by decide) (.inl m_944) rfl 4 rfl ?_
  rw [hB.2.2.1]
  refine z_iconst F dX10_opens_4 5 (by decide) 5 rfl ?_
  refine z_icmp_ne F dX10_opens_5 14 (by decide) 8 rfl (fun h5 => ?_) (fun h5 => ?_)
  · skip
    have hin : i < tN r := hT.lt (i := i) (by rw [hbs]; rcases hsg with z | z <;> (rw [z]; decide))
    refine z_aload_n F dX10_opens_14 0 rfl 15 rfl ?_
    refine z_dup F dX10_opens_15 rfl 16 rfl ?_
    refine z_getI F zc9 dX10_opens_16 rfl 14 (by decide) (by decide) (.inl m_944) rfl 19 rfl ?_
    rw [hB.2.2.1]
    refine z_iconst F dX10_opens_19 1 (by decide) 20 rfl ?_
    refine z_iadd F dX10_opens_20 21 rfl ?_
    rw [nI_1, show 5 - (h + 1) + 1 = 5 - h by omega]
    refine z_putI F zc9 dX10_opens_21 rfl 14 (by decide) (by decide) (.inl m_944) rfl rfl z_pI 24 rfl ?_
    refine z_aload_n F dX10_opens_24 0 rfl 25 rfl ?_
    refine z_dup F dX10_opens_25 rfl 26 rfl ?_
    refine z_getI F zc9 dX10_opens_26 rfl 13 (by decide) (by decide) (.inl m_943) rfl 29 rfl ?_
    rw [u2_k (show 13 ≠ 14 by decide), hB.2.1]
    refine z_iconst F dX10_opens_29 1 (by decide) 30 rfl ?_
    refine z_iadd F dX10_opens_30 31 rfl ?_
    rw [nI_1]
    refine z_putI F zc9 dX10_opens_31 rfl 13 (by decide) (by decide) (.inl m_943) rfl rfl z_pI 34 rfl ?_
    refine z_iload_n F dX10_opens_34 1 rfl 35 rfl ?_
    refine z_bipush F dX10_opens_35 33 (by decide) 37 rfl ?_
    refine z_icmp_ne F dX10_opens_37 53 (by decide) 40 rfl (fun h37 => ?_) (fun h37 => ?_)
    · skip
      have hb40 : tbR r i = 40 := hbs.trans (by rcases hsg with z | z; exact absurd z h37; exact z)
      have hgd := lev_gd hT (unt_gd hT hw h) 5 (by decide) (i + 1) (by omega)
      refine z_aload_n F dX10_opens_53 0 rfl 54 rfl ?_
      refine z_callVv F dX10_opens_54 m_1129 iX10_any jX10_any rfl zc9 rfl (hV (i + 1) L _ (by omega) (by omega) hB.opn.adv ((hLd.u0 (by decide)).u0 (by decide)) (by rw [u2_k (by decide), u2_k (by decide)]; exact h15)) rfl (by omega) (Nat.le_of_ble_eq_true rfl) 57 rfl (fun s54 c54 => ?_)
      refine z_aload_n F dX10_opens_57 0 rfl 58 rfl ?_
      refine z_aload_n F dX10_opens_58 0 rfl 59 rfl ?_
      refine z_getI F zc9 dX10_opens_59 rfl 15 (by decide) (by decide) (.inl m_945) rfl 62 rfl ?_
      rw [c54.2.2.1]
      refine z_if_ne F dX10_opens_62 74 (by decide) 65 rfl (fun h62 => ?_) (fun h62 => ?_)
      · skip
        refine z_iconst F dX10_opens_74 1 (by decide) 75 rfl ?_
        refine z_goto F dX10_opens_75 79 (by decide) ?_
        refine z_putZ F zc9 dX10_opens_79 rfl 15 (by decide) (by decide) (.inl m_945) rfl rfl z_pZ rfl rfl 82 rfl ?_
        refine z_aload_n F dX10_opens_82 0 rfl 83 rfl ?_
        refine z_dup F dX10_opens_83 rfl 84 rfl ?_
        refine z_getI F zc9 dX10_opens_84 rfl 13 (by decide) (by decide) (.inl m_943) rfl 87 rfl ?_
        rw [u2_k (show 13 ≠ 15 by decide), c54.2.1.2.1]
        refine z_aload_n F dX10_opens_87 0 rfl 88 rfl ?_
        refine z_getI F zc9 dX10_opens_88 rfl 15 (by decide) (by decide) (.inl m_945) rfl 91 rfl ?_
        rw [u2_same]
        refine z_if_eq F dX10_opens_91 98 (by decide) 94 rfl (fun h91 => ?_) (fun h91 => ?_)
        · skip
          exact absurd h91 (by decide)
        · skip
          refine z_iconst F dX10_opens_94 0 (by decide) 95 rfl ?_
          refine z_goto F dX10_opens_95 99 (by decide) ?_
          refine z_iadd F dX10_opens_99 100 rfl ?_
          rw [Int32.add_zero]
          refine z_putI F zc9 dX10_opens_100 rfl 13 (by decide) (by decide) (.inl m_943) rfl rfl z_pI 103 rfl ?_
          refine z_aload_n F dX10_opens_103 0 rfl 104 rfl ?_
          refine z_dup F dX10_opens_104 rfl 105 rfl ?_
          refine z_getI F zc9 dX10_opens_105 rfl 14 (by decide) (by decide) (.inl m_944) rfl 108 rfl ?_
          rw [u2_k (show 14 ≠ 13 by decide), u2_k (show 14 ≠ 15 by decide), c54.2.1.2.2.1]
          refine z_iconst F dX10_opens_108 1 (by decide) 109 rfl ?_
          refine z_isub F dX10_opens_109 110 rfl ?_
          rw [show nI (5 - h) - 1 = nI (5 - (h + 1)) from (pk_sub (b := 1) (by omega)).trans (congrArg nI (by omega))]
          refine z_putI F zc9 dX10_opens_110 rfl 14 (by decide) (by decide) (.inl m_944) rfl rfl z_pI 113 rfl ?_
          refine z_rv F dX10_opens_113 ?_
          have hno : ¬ (levP (tbR r) (untP (tbR r) w h) 5 (i + 1)).2.2 = true := bI1.mp h62
          rw [unt_40 hw hb40, if_neg hno]
          exact ⟨((((MG.rf.u0 (by decide)).u0 (by decide)).tr c54.1).u0 (by decide)).u0 (by decide) |>.u0 (by decide), c54.2.1.bad.adv.opn, by rw [u2_k (by decide), u2_k (by decide), u2_same]; exact (bI_t hno).symm, fun z => absurd z hno⟩
      · skip
        have hok : (levP (tbR r) (untP (tbR r) w h) 5 (i + 1)).2.2 = true := Decidable.not_not.mp (bI0.mp h62)
        refine z_aload_n F dX10_opens_65 0 rfl 66 rfl ?_
        refine z_callVp F dX10_opens_66 m_1153 iX10_look jX10_look rfl zc9 rfl (kX10_look s54 hx c54.2.1 hgd.2.1) rfl (by omega) (Nat.le_of_ble_eq_true rfl) 69 rfl ?_
        refine z_bipush F dX10_opens_69 41 (by decide) 71 rfl ?_
        refine z_icmp_eq F dX10_opens_71 78 (by decide) 74 rfl (fun h71 => ?_) (fun h71 => ?_)
        · skip
          refine z_iconst F dX10_opens_78 0 (by decide) 79 rfl ?_
          refine z_putZ F zc9 dX10_opens_79 rfl 15 (by decide) (by decide) (.inl m_945) rfl rfl z_pZ rfl rfl 82 rfl ?_
          refine z_aload_n F dX10_opens_82 0 rfl 83 rfl ?_
          refine z_dup F dX10_opens_83 rfl 84 rfl ?_
          refine z_getI F zc9 dX10_opens_84 rfl 13 (by decide) (by decide) (.inl m_943) rfl 87 rfl ?_
          rw [u2_k (show 13 ≠ 15 by decide), c54.2.1.2.1]
          refine z_aload_n F dX10_opens_87 0 rfl 88 rfl ?_
          refine z_getI F zc9 dX10_opens_88 rfl 15 (by decide) (by decide) (.inl m_945) rfl 91 rfl ?_
          rw [u2_same]
          refine z_if_eq F dX10_opens_91 98 (by decide) 94 rfl (fun h91 => ?_) (fun h91 => ?_)
          · skip
            refine z_iconst F dX10_opens_98 1 (by decide) 99 rfl ?_
            refine z_iadd F dX10_opens_99 100 rfl ?_
            rw [nI_1]
            refine z_putI F zc9 dX10_opens_100 rfl 13 (by decide) (by decide) (.inl m_943) rfl rfl z_pI 103 rfl ?_
            refine z_aload_n F dX10_opens_103 0 rfl 104 rfl ?_
            refine z_dup F dX10_opens_104 rfl 105 rfl ?_
            refine z_getI F zc9 dX10_opens_105 rfl 14 (by decide) (by decide) (.inl m_944) rfl 108 rfl ?_
            rw [u2_k (show 14 ≠ 13 by decide), u2_k (show 14 ≠ 15 by decide), c54.2.1.2.2.1]
            refine z_iconst F dX10_opens_108 1 (by decide) 109 rfl ?_
            refine z_isub F dX10_opens_109 110 rfl ?_
            rw [show nI (5 - h) - 1 = nI (5 - (h + 1)) from (pk_sub (b := 1) (by omega)).trans (congrArg nI (by omega))]
            refine z_putI F zc9 dX10_opens_110 rfl 14 (by decide) (by decide) (.inl m_944) rfl rfl z_pI 113 rfl ?_
            refine z_rv F dX10_opens_113 ?_
            rw [unt_40 hw hb40, if_pos hok, if_pos ((lk_eq (by decide) (by decide)).mp h71)]
            exact ⟨((((MG.rf.u0 (by decide)).u0 (by decide)).tr c54.1).u0 (by decide)).u0 (by decide) |>.u0 (by decide), c54.2.1.bad.adv.opn, by rw [u2_k (by decide), u2_k (by decide), u2_same]; rfl, fun _ => (((c54.2.2.2 hok).u0 (by decide)).u0 (by decide)).u0 (by decide)⟩
          · skip
            exact absurd rfl h91
        · skip
          refine z_iconst F dX10_opens_74 1 (by decide) 75 rfl ?_
          refine z_goto F dX10_opens_75 79 (by decide) ?_
          refine z_putZ F zc9 dX10_opens_79 rfl 15 (by decide) (by decide) (.inl m_945) rfl rfl z_pZ rfl rfl 82 rfl ?_
          refine z_aload_n F dX10_opens_82 0 rfl 83 rfl ?_
          refine z_dup F dX10_opens_83 rfl 84 rfl ?_
          refine z_getI F zc9 dX10_opens_84 rfl 13 (by decide) (by decide) (.inl m_943) rfl 87 rfl ?_
          rw [u2_k (show 13 ≠ 15 by decide), c54.2.1.2.1]
          refine z_aload_n F dX10_opens_87 0 rfl 88 rfl ?_
          refine z_getI F zc9 dX10_opens_88 rfl 15 (by decide) (by decide) (.inl m_945) rfl 91 rfl ?_
          rw [u2_same]
          refine z_if_eq F dX10_opens_91 98 (by decide) 94 rfl (fun h91 => ?_) (fun h91 => ?_)
          · skip
            exact absurd h91 (by decide)
          · skip
            refine z_iconst F dX10_opens_94 0 (by decide) 95 rfl ?_
            refine z_goto F dX10_opens_95 99 (by decide) ?_
            refine z_iadd F dX10_opens_99 100 rfl ?_
            rw [Int32.add_zero]
            refine z_putI F zc9 dX10_opens_100 rfl 13 (by decide) (by decide) (.inl m_943) rfl rfl z_pI 103 rfl ?_
            refine z_aload_n F dX10_opens_103 0 rfl 104 rfl ?_
            refine z_dup F dX10_opens_104 rfl 105 rfl ?_
            refine z_getI F zc9 dX10_opens_105 rfl 14 (by decide) (by decide) (.inl m_944) rfl 108 rfl ?_
            rw [u2_k (show 14 ≠ 13 by decide), u2_k (show 14 ≠ 15 by decide), c54.2.1.2.2.1]
            refine z_iconst F dX10_opens_108 1 (by decide) 109 rfl ?_
            refine z_isub F dX10_opens_109 110 rfl ?_
            rw [show nI (5 - h) - 1 = nI (5 - (h + 1)) from (pk_sub (b := 1) (by omega)).trans (congrArg nI (by omega))]
            refine z_putI F zc9 dX10_opens_110 rfl 14 (by decide) (by decide) (.inl m_944) rfl rfl z_pI 113 rfl ?_
            refine z_rv F dX10_opens_113 ?_
            rw [unt_40 hw hb40, if_pos hok, if_neg (fun z => h71 ((lk_eq (by decide) (by decide)).mpr z))]
            exact ⟨((((MG.rf.u0 (by decide)).u0 (by decide)).tr c54.1).u0 (by decide)).u0 (by decide) |>.u0 (by decide), c54.2.1.bad.adv.opn, by rw [u2_k (by decide), u2_k (by decide), u2_same]; rfl, fun z => absurd z Bool.false_ne_true⟩
    · skip
      have hb33 : tbR r i = 33 := hbs.trans h37
      refine z_aload_n F dX10_opens_40 0 rfl 41 rfl ?_
      refine z_callVv F dX10_opens_41 m_1149 iX10_one jX10_one rfl zc9 rfl (hU (i + 1) L _ (by omega) (by omega) hB.opn.adv ((hLd.u0 (by decide)).u0 (by decide)) (by rw [u2_k (by decide), u2_k (by decide)]; exact h15)) rfl (by omega) (Nat.le_of_ble_eq_true rfl) 44 rfl (fun s41 c41 => ?_)
      obtain ⟨q, hq, e12⟩ := c41.l
      refine z_aload_n F dX10_opens_44 0 rfl 45 rfl ?_
      refine z_iconst F dX10_opens_45 3 (by decide) 46 rfl ?_
      refine z_iconst F dX10_opens_46 0 (by decide) 47 rfl ?_
      refine z_callVu F dX10_opens_47 m_1161 iX10_lays jX10_lays rfl zc9 rfl (kX10_lays s41 hq e12 _ _) rfl (by omega) (Nat.le_of_ble_eq_true rfl) 50 rfl ?_
      refine z_goto F dX10_opens_50 103 (by decide) ?_
      refine z_aload_n F dX10_opens_103 0 rfl 104 rfl ?_
      refine z_dup F dX10_opens_104 rfl 105 rfl ?_
      refine z_getI F zc9 dX10_opens_105 rfl 14 (by decide) (by decide) (.inl m_944) rfl 108 rfl ?_
      rw [lay_14, c41.2.1.2.2.1]
      refine z_iconst F dX10_opens_108 1 (by decide) 109 rfl ?_
      refine z_isub F dX10_opens_109 110 rfl ?_
      rw [show nI (5 - h) - 1 = nI (5 - (h + 1)) from (pk_sub (b := 1) (by omega)).trans (congrArg nI (by omega))]
      refine z_putI F zc9 dX10_opens_110 rfl 14 (by decide) (by decide) (.inl m_944) rfl rfl z_pI 113 rfl ?_
      refine z_rv F dX10_opens_113 ?_
      rw [unt_33 hw hb33]
      refine ⟨(lay_G (((MG.rf.u0 (by decide)).u0 (by decide)).tr c41.1)).u0 (by decide), (lay_B c41.2.1 e12).opn, by rw [u2_k (by decide), lay_15]; exact c41.2.2.1, fun ok => ?_⟩
      have hl := c41.2.2.2 ok
      obtain ⟨g1, g2, g3⟩ := unt_gd hT hw h (i + 1) (by omega)
      obtain ⟨g4, g5, -⟩ := g3 ok
      have hlen : (L ++ (untP (tbR r) w h (i + 1)).2.1).length < 60 := by rw [List.length_append]; omega
      have eq : q = (L ++ (untP (tbR r) w h (i + 1)).2.1).length := len_q hl (by omega) hq e12
      rw [eq, ← List.append_assoc]
      exact (lay_L hl hlen).u0 (by decide)
  · skip
    exact absurd (eq_nI (b := 5) h5 (by omega) (by decide)) (by omega)
