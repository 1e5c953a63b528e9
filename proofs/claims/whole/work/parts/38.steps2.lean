/-! the reference: steps, relatives -/
theorem or0_I (x : Int32) : x ||| 0 = x := Int32.or_zero
theorem msk_nI : ∀ s, s < 256 → ∀ p, p < 8 → s.testBit p = false → nI s &&& (nI (2 ^ p) ^^^ (-1)) = nI s := by decide +kernel
theorem cntB_cut {f : Nat → Bool} {n : Nat} : ∀ m, n ≤ m → cntB (fun i => decide (i < n) && f i) m = cntB f n
  | 0, h => by have : n = 0 := by omega
               subst this; rfl
  | m + 1, h => by
    rcases Nat.lt_or_ge m n with q | q
    · have : n = m + 1 := by omega
      subst this
      exact cntB_congr (fun i hi => by simp [hi])
    · rw [cntB_f (by simp; omega)]
      exact cntB_cut m q
theorem pc_set {f : Nat → Bool} {n : Nat} (hn : n ≤ 8) : pcN (setOf f n) = cntB f n := by
  unfold pcN
  rw [show (fun i => (setOf f n).testBit i) = fun i => decide (i < n) && f i from funext (fun i => setOf_bit f n i)]
  exact cntB_cut 8 hn
theorem bes_lt {r : Rw} {s : Nat} (h : nP r ≤ 8) : besN r s < 256 := Nat.lt_of_lt_of_le (setOf_lt _ _) (Nat.pow_le_pow_right (n := 2) (by decide) h)
theorem com_lt {r : Rw} {i k : Nat} (h : nP r ≤ 8) : comN r i k < 256 := Nat.lt_of_lt_of_le (setOf_lt _ _) (Nat.pow_le_pow_right (n := 2) (by decide) h)
theorem bes_two {r : Rw} {p b : Nat} (hp : p < nP r) : anyB (fun c => besP r (2 ^ p) c b) (nP r) = (b != p && adj r p b) := by
  rw [Bool.eq_iff_iff, anyB_iff]
  unfold besP
  simp only [Nat.testBit_two_pow, Bool.and_eq_true, decide_eq_true_eq, bne_iff_ne, ne_eq]
  refine ⟨fun h => ?_, fun h => ⟨p, hp, rfl, fun e => h.1 e.symm, h.2⟩⟩
  obtain ⟨c, h1, h2, h3, h4⟩ := h
  subst h2
  exact ⟨fun e => h3 e.symm, h4⟩
theorem near_bes {r : Rw} {p : Nat} (hp : p < nP r) (h8 : nP r ≤ 8) : pcN (besN r (2 ^ p)) = nearN r p := by
  unfold besN nearN
  rw [pc_set h8]
  exact cntB_congr (fun b _ => bes_two hp)
theorem bes_self {r : Rw} {p : Nat} (hp : p < nP r) : (besN r (2 ^ p)).testBit p = false := by
  unfold besN
  rw [setOf_bit, bes_two hp]; simp
theorem besP_i {r : Rw} {s a b : Nat} (h1 : s.testBit a = true) (h2 : ¬ a = b) (h3 : adj r a b = true) : besP r s a b = true := by unfold besP; simp [h1, h2, h3]
theorem besP_n {r : Rw} {s a b : Nat} (h : s.testBit a = false ∨ a = b ∨ ¬ adj r a b = true) : ¬ besP r s a b = true := by
  unfold besP
  rcases h with h | h | h <;> simp [h]
set_option maxHeartbeats 400000 in
set_option maxRecDepth 10000 in
theorem kX10_besides {l : Launch} {E : z_E} (σ : z_M) (hn : σ 1 2 = nI (nP (σ 1)) ∧ nP (σ 1) ≤ 8) {s : Nat} (hs : s < 256) : z_C l E shM 2 yX10_besides cX10_besides 5 (some FieldType.int) [.ref (z_ad E 0), .int (nI s)] σ (z_Pp (nI (besN (σ 1) s)) σ) := by
  refine z_intro iX10_besides (Nat.le_of_ble_eq_true rfl) (fun K F => ?_)
  have loop4 : ∀ (f : Nat) (a : Nat) (_ : 8 < a + f) (_ : a ≤ nP (σ 1)), z_X l K E shM 2 5 (z_Pp (nI (besN (σ 1) s)) σ) 4 [(0, .ref (z_ad E 0)), (1, .int (nI s)), (2, .int (nI (setOf (besF (σ 1) s a 0) (nP (σ 1))))), (3, .int (nI a))] [] σ := by
    intro f
    induction f with
    | zero =>
      intro a hf ha
      omega
    | succ f ih =>
      intro a hf ha
      have loop17 : ∀ (g : Nat) (b : Nat) (_ : 8 < b + g) (_ : b ≤ nP (σ 1)) (_ : a < nP (σ 1)), z_X l K E shM 2 5 (z_Pp (nI (besN (σ 1) s)) σ) 17 [(0, .ref (z_ad E 0)), (1, .int (nI s)), (2, .int (nI (setOf (besF (σ 1) s a b) (nP (σ 1))))), (3, .int (nI a)), (4, .int (nI b))] [] σ := by
        intro g
        induction g with
        | zero =>
          intro b hg hb han
          omega
        | succ g ih2 =>
          intro b hg hb han
          refine z_iload F dX10_besides_17 4 rfl 19 rfl ?_
          refine z_aload_n F dX10_besides_19 0 rfl 20 rfl ?_
          refine z_getR F zc9 dX10_besides_20 rfl 0 (by decide) (by decide) (.inl m_930) rfl (by decide) 23 rfl ?_
          refine z_iconst F dX10_besides_23 2 (by decide) 24 rfl ?_
          refine z_iald F dX10_besides_24 rfl (show vp_in (nI 2) 385 from vp_in_nI (by decide) (by decide)) 25 rfl ?_
          rw [tn_2, hn.1]
          refine z_icmp_ge F dX10_besides_25 70 (by decide) 28 rfl (fun h25 => ?_) (fun h25 => ?_)
          · skip
            refine z_iinc F dX10_besides_70 3 rfl 1 (by decide) [(0, _), (1, _), (2, _), (3, _), (4, _)] rfl (by decide) 73 rfl ?_
            refine z_goto F dX10_besides_73 4 (by decide) ?_
            have hbe : b = nP (σ 1) := by have := le_nI h25 (by omega) (by omega); omega
            rw [hbe, bes_row, nI_1]
            exact z_sub [0, 1, 2, 3] rfl (ih (a + 1) (by omega) (by omega))
          · skip
            have hbn : b < nP (σ 1) := nle_nI h25 (by omega) (by omega)
            have e := bes_step (r := σ 1) (s := s) (a := a) hbn
            refine z_iload_n F dX10_besides_28 2 rfl 29 rfl ?_
            refine z_iload_n F dX10_besides_29 1 rfl 30 rfl ?_
            refine z_iload_n F dX10_besides_30 3 rfl 31 rfl ?_
            refine z_ishr F dX10_besides_31 32 rfl ?_
            refine z_iconst F dX10_besides_32 1 (by decide) 33 rfl ?_
            refine z_iand F dX10_besides_33 34 rfl ?_
            rw [bit_nI s hs a (by omega)]
            refine z_iconst F dX10_besides_34 1 (by decide) 35 rfl ?_
            refine z_icmp_ne F dX10_besides_35 61 (by decide) 38 rfl (fun h35 => ?_) (fun h35 => ?_)
            · skip
              refine z_iconst F dX10_besides_61 0 (by decide) 62 rfl ?_
              refine z_ior F dX10_besides_62 63 rfl ?_
              rw [or0_I]
              refine z_istore_n F dX10_besides_63 [(0, _), (1, _), (2, _), (3, _), (4, _)] rfl (by decide) 64 rfl ?_
              refine z_iinc F dX10_besides_64 4 rfl 1 (by decide) [(0, _), (1, _), (2, _), (3, _), (4, _)] rfl (by decide) 67 rfl ?_
              refine z_goto F dX10_besides_67 17 (by decide) ?_
              rw [if_neg (besP_n (Or.inl (by cases q : s.testBit a; rfl; (rw [q] at h35; exact absurd rfl h35))))] at e
              rw [nI_1, ← e]
              exact ih2 (b + 1) (by omega) (by omega) han
            · skip
              refine z_iload_n F dX10_besides_38 3 rfl 39 rfl ?_
              refine z_iload F dX10_besides_39 4 rfl 41 rfl ?_
              refine z_icmp_eq F dX10_besides_41 61 (by decide) 44 rfl (fun h41 => ?_) (fun h41 => ?_)
              · skip
                refine z_iconst F dX10_besides_61 0 (by decide) 62 rfl ?_
                refine z_ior F dX10_besides_62 63 rfl ?_
                rw [or0_I]
                refine z_istore_n F dX10_besides_63 [(0, _), (1, _), (2, _), (3, _), (4, _)] rfl (by decide) 64 rfl ?_
                refine z_iinc F dX10_besides_64 4 rfl 1 (by decide) [(0, _), (1, _), (2, _), (3, _), (4, _)] rfl (by decide) 67 rfl ?_
                refine z_goto F dX10_besides_67 17 (by decide) ?_
                rw [if_neg (besP_n (Or.inr (Or.inl (eq_nI h41 (by omega) (by omega)))))] at e
                rw [nI_1, ← e]
                exact ih2 (b + 1) (by omega) (by omega) han
              · skip
                refine z_aload_n F dX10_besides_44 0 rfl 45 rfl ?_
                refine z_iload_n F dX10_besides_45 3 rfl 46 rfl ?_
                refine z_iload F dX10_besides_46 4 rfl 48 rfl ?_
                refine z_callVp F dX10_besides_48 m_1040 iX10_isKin jX10_isKin rfl zc9 rfl (kX10_isKin σ (a := a) (b := b) (by omega) (by omega)) rfl (by decide) (Nat.le_of_ble_eq_true rfl) 51 rfl ?_
                refine z_if_eq F dX10_besides_51 61 (by decide) 54 rfl (fun h51 => ?_) (fun h51 => ?_)
                · skip
                  have h51 := bI0.mp h51
                  refine z_iconst F dX10_besides_61 0 (by decide) 62 rfl ?_
                  refine z_ior F dX10_besides_62 63 rfl ?_
                  rw [or0_I]
                  refine z_istore_n F dX10_besides_63 [(0, _), (1, _), (2, _), (3, _), (4, _)] rfl (by decide) 64 rfl ?_
                  refine z_iinc F dX10_besides_64 4 rfl 1 (by decide) [(0, _), (1, _), (2, _), (3, _), (4, _)] rfl (by decide) 67 rfl ?_
                  refine z_goto F dX10_besides_67 17 (by decide) ?_
                  rw [if_neg (besP_n (Or.inr (Or.inr h51)))] at e
                  rw [nI_1, ← e]
                  exact ih2 (b + 1) (by omega) (by omega) han
                · skip
                  have h51 := bI1.mp h51
                  refine z_iconst F dX10_besides_54 1 (by decide) 55 rfl ?_
                  refine z_iload F dX10_besides_55 4 rfl 57 rfl ?_
                  refine z_ishl F dX10_besides_57 58 rfl ?_
                  rw [shl_nI b (by omega)]
                  refine z_goto F dX10_besides_58 62 (by decide) ?_
                  refine z_ior F dX10_besides_62 63 rfl ?_
                  rw [or_nI]
                  refine z_istore_n F dX10_besides_63 [(0, _), (1, _), (2, _), (3, _), (4, _)] rfl (by decide) 64 rfl ?_
                  refine z_iinc F dX10_besides_64 4 rfl 1 (by decide) [(0, _), (1, _), (2, _), (3, _), (4, _)] rfl (by decide) 67 rfl ?_
                  refine z_goto F dX10_besides_67 17 (by decide) ?_
                  rw [if_pos (besP_i (by cases q : s.testBit a; (rw [q] at h35; exact absurd h35 (by decide)); rfl) (fun q => h41 (by rw [q])) h51)] at e
                  rw [nI_1, ← e]
                  exact ih2 (b + 1) (by omega) (by omega) han
      refine z_iload_n F dX10_besides_4 3 rfl 5 rfl ?_
      refine z_aload_n F dX10_besides_5 0 rfl 6 rfl ?_
      refine z_getR F zc9 dX10_besides_6 rfl 0 (by decide) (by decide) (.inl m_930) rfl (by decide) 9 rfl ?_
      refine z_iconst F dX10_besides_9 2 (by decide) 10 rfl ?_
      refine z_iald F dX10_besides_10 rfl (show vp_in (nI 2) 385 from vp_in_nI (by decide) (by decide)) 11 rfl ?_
      rw [tn_2, hn.1]
      refine z_icmp_ge F dX10_besides_11 76 (by decide) 14 rfl (fun h11 => ?_) (fun h11 => ?_)
      · skip
        refine z_iload_n F dX10_besides_76 2 rfl 77 rfl ?_
        refine z_rp F dX10_besides_77 ?_ rfl
        have hae : a = nP (σ 1) := by have := le_nI h11 (by omega) (by omega); omega
        rw [hae, bes_end]
      · skip
        have han : a < nP (σ 1) := nle_nI h11 (by omega) (by omega)
        refine z_iconst F dX10_besides_14 0 (by decide) 15 rfl ?_
        refine z_istore F dX10_besides_15 [(0, _), (1, _), (2, _), (3, _), (4, _)] rfl (by decide) 17 rfl ?_
        exact loop17 9 0 (by omega) (by omega) han
  refine z_iconst F dX10_besides_0 0 (by decide) 1 rfl ?_
  refine z_istore_n F dX10_besides_1 [(0, _), (1, _), (2, _)] rfl (by decide) 2 rfl ?_
  refine z_iconst F dX10_besides_2 0 (by decide) 3 rfl ?_
  refine z_istore_n F dX10_besides_3 [(0, _), (1, _), (2, _), (3, _)] rfl (by decide) 4 rfl ?_
  have e0 : setOf (besF (σ 1) s 0 0) (nP (σ 1)) = 0 := (setOf_ext (s := 0) (Nat.pow_pos (by decide)) (fun i _ => by simp [besF, anyB])).symm
  have L := loop4 9 0 (by omega) (by omega)
  rw [e0] at L
  exact L
set_option maxHeartbeats 400000 in
set_option maxRecDepth 10000 in
theorem kX10_stepsBy {l : Launch} {E : z_E} (σ : z_M) (hn : σ 1 2 = nI (nP (σ 1)) ∧ nP (σ 1) ≤ 8) {i j : Nat} (hi : i < nP (σ 1)) (hj : j < nP (σ 1)) : z_C l E shM 3 yX10_stepsBy cX10_stepsBy 6 (some FieldType.int) [.ref (z_ad E 0), .int (nI i), .int (nI j)] σ (z_Pp (nI (dS (σ 1) i j)) σ) := by
  refine z_intro iX10_stepsBy (Nat.le_of_ble_eq_true rfl) (fun K F => ?_)
  have loop7 : ∀ (f : Nat) (k : Nat) (_ : 8 < pcN (comN (σ 1) i k) + f) (_ : k ≤ pcN (comN (σ 1) i k)) (_ : ∀ t, t < k → rch (nP (σ 1)) (adj (σ 1)) t i j = false), z_X l K E shM 3 6 (z_Pp (nI (dS (σ 1) i j)) σ) 7 [(0, .ref (z_ad E 0)), (1, .int (nI i)), (2, .int (nI j)), (3, .int (nI (comN (σ 1) i k))), (4, .int (nI k))] [] σ := by
    intro f
    induction f with
    | zero =>
      intro k hf hk hno
      have := cntB_le (fun t => (comN (σ 1) i k).testBit t) 8
      unfold pcN at hf
      omega
    | succ f ih =>
      intro k hf hk hno
      have hcs : comN (σ 1) i k < 256 := com_lt hn.2
      have hp8 : pcN (comN (σ 1) i k) ≤ 8 := cntB_le (fun t => (comN (σ 1) i k).testBit t) 8
      refine z_iload_n F dX10_stepsBy_7 3 rfl 8 rfl ?_
      refine z_iload_n F dX10_stepsBy_8 2 rfl 9 rfl ?_
      refine z_ishr F dX10_stepsBy_9 10 rfl ?_
      refine z_iconst F dX10_stepsBy_10 1 (by decide) 11 rfl ?_
      refine z_iand F dX10_stepsBy_11 12 rfl ?_
      rw [bit_nI _ hcs j (by omega), com_bit hj]
      refine z_if_ne F dX10_stepsBy_12 42 (by decide) 15 rfl (fun h12 => ?_) (fun h12 => ?_)
      · skip
        refine z_iload F dX10_stepsBy_42 4 rfl 44 rfl ?_
        refine z_rp F dX10_stepsBy_44 ?_ rfl
        have hkj : rch (nP (σ 1)) (adj (σ 1)) k i j = true := by
          cases q : rch (nP (σ 1)) (adj (σ 1)) k i j
          · exfalso; rw [q] at h12; exact absurd rfl h12
          · rfl
        exact congrArg nI (fstF_is (p := fun k => rch (nP (σ 1)) (adj (σ 1)) k i j) (by omega) hkj hno).symm
      · skip
        have hkj : rch (nP (σ 1)) (adj (σ 1)) k i j = false := by
          cases q : rch (nP (σ 1)) (adj (σ 1)) k i j
          · rfl
          · exfalso; rw [q] at h12; exact absurd h12 (by decide)
        refine z_iload_n F dX10_stepsBy_15 3 rfl 16 rfl ?_
        refine z_aload_n F dX10_stepsBy_16 0 rfl 17 rfl ?_
        refine z_iload_n F dX10_stepsBy_17 3 rfl 18 rfl ?_
        refine z_callVp F dX10_stepsBy_18 m_1036 iX10_besides jX10_besides rfl zc9 rfl (kX10_besides σ hn (s := comN (σ 1) i k) hcs) rfl (by decide) (Nat.le_of_ble_eq_true rfl) 21 rfl ?_
        refine z_ior F dX10_stepsBy_21 22 rfl ?_
        rw [or_nI, ← com_s]
        refine z_istore F dX10_stepsBy_22 [(0, _), (1, _), (2, _), (3, _), (4, _), (5, _)] rfl (by decide) 24 rfl ?_
        refine z_iload F dX10_stepsBy_24 5 rfl 26 rfl ?_
        refine z_iload_n F dX10_stepsBy_26 3 rfl 27 rfl ?_
        refine z_icmp_ne F dX10_stepsBy_27 33 (by decide) 30 rfl (fun h27 => ?_) (fun h27 => ?_)
        · skip
          refine z_iload F dX10_stepsBy_33 5 rfl 35 rfl ?_
          refine z_istore_n F dX10_stepsBy_35 [(0, _), (1, _), (2, _), (3, _), (4, _), (5, _)] rfl (by decide) 36 rfl ?_
          refine z_iinc F dX10_stepsBy_36 4 rfl 1 (by decide) [(0, _), (1, _), (2, _), (3, _), (4, _), (5, _)] rfl (by decide) 39 rfl ?_
          refine z_goto F dX10_stepsBy_39 7 (by decide) ?_
          have hne : ¬ comN (σ 1) i k ||| besN (σ 1) (comN (σ 1) i k) = comN (σ 1) i k := fun q => h27 (by rw [com_s, q])
          have hgr := pc_lt hcs (bes_lt hn.2) hne
          rw [← com_s] at hgr
          rw [nI_1]
          refine z_sub [0, 1, 2, 3, 4] rfl (ih (k + 1) (by omega) (by omega) (fun t ht => ?_))
          rcases Nat.lt_or_ge t k with z | z
          · exact hno t z
          · rw [show t = k by omega]; exact hkj
        · skip
          refine z_bipush F dX10_stepsBy_30 40 (by decide) 32 rfl ?_
          refine z_rp F dX10_stepsBy_32 ?_ rfl
          have hfx := com_fix (eq_nI h27 (Nat.lt_trans (com_lt hn.2) (by decide)) (Nat.lt_trans (com_lt hn.2) (by decide)))
          have hd : dS (σ 1) i j = 40 := fstF_none (fun t _ => by
            rcases Nat.lt_or_ge t k with z | z
            · exact hno t z
            · have e1 := hfx (t - k)
              rw [show k + (t - k) = t by omega] at e1
              show rch (nP (σ 1)) (adj (σ 1)) t i j = false
              rw [← com_bit hj, e1, com_bit hj]; exact hkj)
          rw [hd]; rfl
  refine z_iconst F dX10_stepsBy_0 1 (by decide) 1 rfl ?_
  refine z_iload_n F dX10_stepsBy_1 1 rfl 2 rfl ?_
  refine z_ishl F dX10_stepsBy_2 3 rfl ?_
  rw [shl_nI i (by omega), ← com_0 hi]
  refine z_istore_n F dX10_stepsBy_3 [(0, _), (1, _), (2, _), (3, _)] rfl (by decide) 4 rfl ?_
  refine z_iconst F dX10_stepsBy_4 0 (by decide) 5 rfl ?_
  refine z_istore F dX10_stepsBy_5 [(0, _), (1, _), (2, _), (3, _), (4, _)] rfl (by decide) 7 rfl ?_
  exact loop7 9 0 (by omega) (by omega) (fun t ht => by omega)
set_option maxHeartbeats 400000 in
set_option maxRecDepth 10000 in
theorem kX10_relatives {l : Launch} {E : z_E} (σ : z_M) (hn : σ 1 2 = nI (nP (σ 1)) ∧ nP (σ 1) ≤ 8) {i : Nat} (hi : i < nP (σ 1)) : z_C l E shM 3 yX10_relatives cX10_relatives 2 (some FieldType.int) [.ref (z_ad E 0), .int (nI i)] σ (z_Pp (nI (nearN (σ 1) i)) σ) := by
  refine z_intro iX10_relatives (Nat.le_of_ble_eq_true rfl) (fun K F => ?_)
  refine z_aload_n F dX10_relatives_0 0 rfl 1 rfl ?_
  refine z_iconst F dX10_relatives_1 1 (by decide) 2 rfl ?_
  refine z_iload_n F dX10_relatives_2 1 rfl 3 rfl ?_
  refine z_ishl F dX10_relatives_3 4 rfl ?_
  rw [shl_nI i (by omega)]
  refine z_callVp F dX10_relatives_4 m_1036 iX10_besides jX10_besides rfl zc9 rfl (kX10_besides σ hn (s := 2 ^ i) (Nat.lt_of_lt_of_le (Nat.pow_lt_pow_right (by decide) (show i < 8 by omega)) (by decide))) rfl (by decide) (Nat.le_of_ble_eq_true rfl) 7 rfl ?_
  refine z_iconst F dX10_relatives_7 1 (by decide) 8 rfl ?_
  refine z_iload_n F dX10_relatives_8 1 rfl 9 rfl ?_
  refine z_ishl F dX10_relatives_9 10 rfl ?_
  rw [shl_nI i (by omega)]
  refine z_iconst F dX10_relatives_10 (-1) (by decide) 11 rfl ?_
  refine z_ixor F dX10_relatives_11 12 rfl ?_
  refine z_iand F dX10_relatives_12 13 rfl ?_
  rw [msk_nI _ (bes_lt hn.2) i (by omega) (bes_self hi)]
  refine z_callSp F dX10_relatives_13 m_1044 iX10_bits m_1045 rfl (kX10_bits σ (bes_lt hn.2)) rfl (by decide) (Nat.le_of_ble_eq_true rfl) 16 rfl ?_
  refine z_rp F dX10_relatives_16 ?_ rfl
  rw [near_bes hi hn.2]
