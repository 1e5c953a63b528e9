/-! the reference: soonest, match, orderFor, check -/
theorem soon_at {r : Rw} {Y : Nat} (h : MV Y r) {i j : Nat} (hi : i < nP r) (hj : j < 8) : (pO r i 4 >>> (nI j &&& 31)) &&& 1 = if (sN r i).testBit j then 1 else 0 := by
  rw [(sN_lt h.2.2.2.2 h.1 i).2.2 hi]; exact bit_nI _ (sN_lt h.2.2.2.2 h.1 i).2.1 j hj
theorem seers_lt {r : Rw} (h : nP r ≤ 8) (i : Nat) : seersN r i < 2 ^ 31 := Nat.lt_of_lt_of_le (setOf_lt _ _) (Nat.pow_le_pow_right (n := 2) (by decide) (by omega))
def mB (s : Nat × Nat) : Int32 := if s.2 = 100 then -1 else nI s.2
theorem mB_neg {s : Nat × Nat} (h : s.2 = 100 ∨ s.2 < 88) : mB s < 0 ↔ s.2 = 100 := by
  unfold mB
  rcases h with h | h
  · rw [if_pos h]; exact ⟨fun _ => h, fun _ => by decide⟩
  · rw [if_neg (by omega)]; exact ⟨fun z => absurd z (nI_pos (by omega)), fun z => by omega⟩
theorem mS_t {r : Rw} {i j q : Nat} (ho : mOkB r q = true) (h : dS (wedR r (q / 8) (q % 8)) i j < (mS r i j q).1) : mS r i j (q + 1) = (dS (wedR r (q / 8) (q % 8)) i j, 10 * (q / 8) + q % 8) := if_pos ⟨ho, h⟩
theorem mS_f {r : Rw} {i j q : Nat} (h : mOkB r q = false ∨ ¬ dS (wedR r (q / 8) (q % 8)) i j < (mS r i j q).1) : mS r i j (q + 1) = mS r i j q := if_neg (fun w => by
  rcases h with h | h
  · rw [h] at w; exact absurd w.1 (by decide)
  · exact h w.2)
set_option maxHeartbeats 400000 in
set_option maxRecDepth 10000 in
theorem kX10_soonest {l : Launch} {E : z_E} (σ : z_M) {τ0 : z_M} (hR : Rel τ0 σ) (x : Int32) (y : Int32)  : z_C l E shM 7 yX10_soonest cX10_soonest 4 (some FieldType.int) [.ref (z_ad E 0), .int x, .int y] σ (z_Pi (fun rv μ' => rv = (aSoonest σ x y).1 ∧ MO (aSoonest σ x y).2 μ')) := by
  refine z_intro iX10_soonest (Nat.le_of_ble_eq_true rfl) (fun K F => ?_)
  have hn : σ 1 2 = nI (nP (σ 1)) := hR.2.1.1.1
  have h8 : nP (σ 1) ≤ 8 := hR.n8
  have hN : σ 1 2 = nI (nP (σ 1)) ∧ nP (σ 1) ≤ 8 := ⟨hn, h8⟩
  refine z_aload_n F dX10_soonest_0 0 rfl 1 rfl ?_
  refine z_iload_n F dX10_soonest_1 1 rfl 2 rfl ?_
  refine z_callVp F dX10_soonest_2 m_1016 iX10_isPerson jX10_isPerson rfl zc9 rfl (kX10_isPerson σ hN _) rfl (by decide) (Nat.le_of_ble_eq_true rfl) 5 rfl ?_
  refine z_if_eq F dX10_soonest_5 16 (by decide) 8 rfl (fun h5 => ?_) (fun h5 => ?_)
  · skip
    have h5 := bI0.mp h5
    refine z_aload_n F dX10_soonest_16 0 rfl 17 rfl ?_
    refine z_ldc F dX10_soonest_17 m_1001 19 rfl ?_
    rw [lo1]
    refine z_callVi F dX10_soonest_19 m_1002 iX10_error jX10_error rfl zc9 rfl (kX10_error σ (k := 1) (by decide) (by decide)) rfl (by decide) (Nat.le_of_ble_eq_true rfl) 22 rfl (fun r19 s19 c19 => ?_)
    refine z_ri F dX10_soonest_22 ?_
    obtain ⟨rfl, rfl⟩ := c19
    exact finM (by
      unfold aSoonest
      (repeat' split) <;> first | rfl | contradiction | (exfalso; simp only [Int32.lt_iff_toInt_lt, Int32.le_iff_toInt_le, ← Int32.toInt_inj, Int32.reduceToInt] at *; omega)) MO.rf
  · skip
    have h5 := bI1.mp h5
    refine z_aload_n F dX10_soonest_8 0 rfl 9 rfl ?_
    refine z_iload_n F dX10_soonest_9 2 rfl 10 rfl ?_
    refine z_callVp F dX10_soonest_10 m_1016 iX10_isPerson jX10_isPerson rfl zc9 rfl (kX10_isPerson σ hN _) rfl (by decide) (Nat.le_of_ble_eq_true rfl) 13 rfl ?_
    refine z_if_ne F dX10_soonest_13 23 (by decide) 16 rfl (fun h13 => ?_) (fun h13 => ?_)
    · skip
      have h13 := bI1.mp h13
      obtain ⟨i, hi, rfl⟩ := isP_of (n := nP (σ 1)) (hn ▸ h5) (by omega)
      have i31 : i < 2 ^ 31 := by omega
      obtain ⟨j, hj, rfl⟩ := isP_of (n := nP (σ 1)) (hn ▸ h13) (by omega)
      have j31 : j < 2 ^ 31 := by omega
      have loop29 : ∀ (f : Nat) (k : Nat) (τ : z_M) (_ : 61 < k + f) (_ : k ≤ 61) (_ : τ 1 = goN k (σ 1)) (_ : MS [1, 10, 11] (z_up σ 3 (σ 1)) τ) (_ : ∀ t, t < k → (sN (goN t (σ 1)) i).testBit j = false), z_X l K E shM 7 4 (z_Pi (fun rv μ' => rv = (aSoonest σ (nI i) (nI j)).1 ∧ MO (aSoonest σ (nI i) (nI j)).2 μ')) 29 [(0, .ref (z_ad E 0)), (1, .int (nI i)), (2, .int (nI j)), (3, .int (nI k))] [] τ := by
        intro f
        induction f with
        | zero =>
          intro k τ hf hk e1 hs hno
          omega
        | succ f ih =>
          intro k τ hf hk e1 hs hno
          have hvk := hR.mv.goN (by decide) k (by omega)
          rw [← e1] at hvk
          obtain ⟨m31, k31⟩ := thk_ms hs
          have hnk : nP (τ 1) = nP (σ 1) := by rw [e1]; exact eqK_nP (eqK_goN hR.mv.2.2.2.1 k)
          have hik : i < nP (τ 1) := by rw [hnk]; exact hi
          refine z_iload_n F dX10_soonest_29 3 rfl 30 rfl ?_
          refine z_bipush F dX10_soonest_30 60 (by decide) 32 rfl ?_
          refine z_icmp_gt F dX10_soonest_32 58 (by decide) 35 rfl (fun h32 => ?_) (fun h32 => ?_)
          · skip
            refine z_aload_n F dX10_soonest_58 0 rfl 59 rfl ?_
            refine z_callVu F dX10_soonest_59 m_1229 iX10_putsBack jX10_putsBack rfl zc9 rfl (kX10_putsBack τ) rfl (by decide) (Nat.le_of_ble_eq_true rfl) 62 rfl ?_
            refine z_iload_n F dX10_soonest_62 3 rfl 63 rfl ?_
            refine z_bipush F dX10_soonest_63 60 (by decide) 65 rfl ?_
            refine z_icmp_le F dX10_soonest_65 77 (by decide) 68 rfl (fun h65 => ?_) (fun h65 => ?_)
            · skip
              exact absurd h32 (i_nlt.mpr h65)
            · skip
              refine z_aload_n F dX10_soonest_68 0 rfl 69 rfl ?_
              refine z_ldc F dX10_soonest_69 m_1091 71 rfl ?_
              rw [lo2]
              refine z_callVi F dX10_soonest_71 m_1002 iX10_error jX10_error rfl zc9 rfl (kX10_error _ (k := 2) (by decide) (by decide)) rfl (by decide) (Nat.le_of_ble_eq_true rfl) 74 rfl (fun r71 s71 c71 => ?_)
              refine z_goto F dX10_soonest_74 78 (by decide) ?_
              refine z_ri F dX10_soonest_78 ?_
              obtain ⟨rfl, rfl⟩ := c71
              have hk61 : k = 61 := by
                have h60 : 60 < k := nle_nI (b := 60) h65 (by omega) (by decide)
                omega
              refine finE ?_ (MO.back m31 k31)
              unfold aSoonest
              rw [if_pos ⟨h5, h13⟩, nI_clamp i31, nI_clamp j31, if_pos]
              exact fstF_none (fun t ht => hno t (by omega))
          · skip
            have hk60 : k ≤ 60 := le_nI (b := 60) (i_nlt.mp h32) (by omega) (by decide)
            refine z_aload_n F dX10_soonest_35 0 rfl 36 rfl ?_
            refine z_iload_n F dX10_soonest_36 1 rfl 37 rfl ?_
            refine z_iconst F dX10_soonest_37 4 (by decide) 38 rfl ?_
            refine z_callVp F dX10_soonest_38 m_1020 iX10_of jX10_of rfl zc9 rfl (kX10_of τ (p := i) (w := 4) (by omega) (by decide)) rfl (by decide) (Nat.le_of_ble_eq_true rfl) 41 rfl ?_
            refine z_iload_n F dX10_soonest_41 2 rfl 42 rfl ?_
            refine z_ishr F dX10_soonest_42 43 rfl ?_
            refine z_iconst F dX10_soonest_43 1 (by decide) 44 rfl ?_
            refine z_iand F dX10_soonest_44 45 rfl ?_
            rw [soon_at hvk hik (by omega), e1]
            refine z_if_ne F dX10_soonest_45 58 (by decide) 48 rfl (fun h45 => ?_) (fun h45 => ?_)
            · skip
              refine z_aload_n F dX10_soonest_58 0 rfl 59 rfl ?_
              refine z_callVu F dX10_soonest_59 m_1229 iX10_putsBack jX10_putsBack rfl zc9 rfl (kX10_putsBack τ) rfl (by decide) (Nat.le_of_ble_eq_true rfl) 62 rfl ?_
              refine z_iload_n F dX10_soonest_62 3 rfl 63 rfl ?_
              refine z_bipush F dX10_soonest_63 60 (by decide) 65 rfl ?_
              refine z_icmp_le F dX10_soonest_65 77 (by decide) 68 rfl (fun h65 => ?_) (fun h65 => ?_)
              · skip
                refine z_iload_n F dX10_soonest_77 3 rfl 78 rfl ?_
                refine z_ri F dX10_soonest_78 ?_
                have hk60 : k ≤ 60 := le_nI (b := 60) h65 (by omega) (by decide)
                have tb : (sN (goN k (σ 1)) i).testBit j = true := by
                  cases q : (sN (goN k (σ 1)) i).testBit j
                  · rw [q] at h45; exact absurd rfl h45
                  · rfl
                have es : soonN (σ 1) i j = k := fstF_is (p := fun n => (sN (goN n (σ 1)) i).testBit j) (by omega) tb hno
                refine finM (m := σ) ?_ (MO.back m31 k31)
                unfold aSoonest
                rw [if_pos ⟨h5, h13⟩, nI_clamp i31, nI_clamp j31, es, if_neg (by omega)]
              · skip
                exact absurd (i_nlt.mp h32) h65
            · skip
              have tb : (sN (goN k (σ 1)) i).testBit j = false := by
                cases q : (sN (goN k (σ 1)) i).testBit j
                · rfl
                · rw [q] at h45; exact absurd h45 (by decide)
              refine z_aload_n F dX10_soonest_48 0 rfl 49 rfl ?_
              refine z_callVv F dX10_soonest_49 m_1189 iX10_goes jX10_goes rfl zc9 rfl (kX10_goes τ hvk (by omega)) rfl (by decide) (Nat.le_of_ble_eq_true rfl) 52 rfl (fun s49 c49 => ?_)
              refine z_iinc F dX10_soonest_52 3 rfl 1 (by decide) [(0, _), (1, _), (2, _), (3, _)] rfl (by decide) 55 rfl ?_
              refine z_goto F dX10_soonest_55 29 (by decide) ?_
              rw [nI_1]
              exact ih (k + 1) s49 (by omega) (by omega) (by rw [c49.1, e1]; rfl) (hs.tr c49.2) (fun t ht => by
                rcases Nat.lt_or_ge t k with z | z
                · exact hno t z
                · rw [show t = k by omega]; exact tb)
      refine z_aload_n F dX10_soonest_23 0 rfl 24 rfl ?_
      refine z_callVu F dX10_soonest_24 m_1222 iX10_thinks jX10_thinks rfl zc9 rfl (kX10_thinks σ) rfl (by decide) (Nat.le_of_ble_eq_true rfl) 27 rfl ?_
      refine z_iconst F dX10_soonest_27 0 (by decide) 28 rfl ?_
      refine z_istore_n F dX10_soonest_28 [(0, _), (1, _), (2, _), (3, _)] rfl (by decide) 29 rfl ?_
      exact loop29 62 0 _ (by omega) (by omega) (up_o (by decide)) MS.rf (fun t ht => by omega)
    · skip
      have h13 := bI0.mp h13
      refine z_aload_n F dX10_soonest_16 0 rfl 17 rfl ?_
      refine z_ldc F dX10_soonest_17 m_1001 19 rfl ?_
      rw [lo1]
      refine z_callVi F dX10_soonest_19 m_1002 iX10_error jX10_error rfl zc9 rfl (kX10_error σ (k := 1) (by decide) (by decide)) rfl (by decide) (Nat.le_of_ble_eq_true rfl) 22 rfl (fun r19 s19 c19 => ?_)
      refine z_ri F dX10_soonest_22 ?_
      obtain ⟨rfl, rfl⟩ := c19
      exact finM (by
        unfold aSoonest
        (repeat' split) <;> first | rfl | contradiction | (exfalso; simp only [Int32.lt_iff_toInt_lt, Int32.le_iff_toInt_le, ← Int32.toInt_inj, Int32.reduceToInt] at *; omega)) MO.rf
set_option maxHeartbeats 400000 in
set_option maxRecDepth 10000 in
theorem kX10_orderFor {l : Launch} {E : z_E} (σ : z_M) {τ0 : z_M} (hR : Rel τ0 σ) (x : Int32) (n : Int32)  : z_C l E shM 8 yX10_orderFor cX10_orderFor 6 (some FieldType.int) [.ref (z_ad E 0), .int x, .int n] σ (z_Pi (fun rv μ' => rv = (aOrderFor σ x n).1 ∧ MO (aOrderFor σ x n).2 μ')) := by
  refine z_intro iX10_orderFor (Nat.le_of_ble_eq_true rfl) (fun K F => ?_)
  have hn : σ 1 2 = nI (nP (σ 1)) := hR.2.1.1.1
  have h8 : nP (σ 1) ≤ 8 := hR.n8
  have hN : σ 1 2 = nI (nP (σ 1)) ∧ nP (σ 1) ≤ 8 := ⟨hn, h8⟩
  refine z_aload_n F dX10_orderFor_0 0 rfl 1 rfl ?_
  refine z_iload_n F dX10_orderFor_1 1 rfl 2 rfl ?_
  refine z_callVp F dX10_orderFor_2 m_1016 iX10_isPerson jX10_isPerson rfl zc9 rfl (kX10_isPerson σ hN _) rfl (by decide) (Nat.le_of_ble_eq_true rfl) 5 rfl ?_
  refine z_if_eq F dX10_orderFor_5 18 (by decide) 8 rfl (fun h5 => ?_) (fun h5 => ?_)
  · skip
    have h5 := bI0.mp h5
    refine z_aload_n F dX10_orderFor_18 0 rfl 19 rfl ?_
    refine z_ldc F dX10_orderFor_19 m_1001 21 rfl ?_
    rw [lo1]
    refine z_callVi F dX10_orderFor_21 m_1002 iX10_error jX10_error rfl zc9 rfl (kX10_error σ (k := 1) (by decide) (by decide)) rfl (by decide) (Nat.le_of_ble_eq_true rfl) 24 rfl (fun r21 s21 c21 => ?_)
    refine z_ri F dX10_orderFor_24 ?_
    obtain ⟨rfl, rfl⟩ := c21
    exact finM (by
      unfold aOrderFor
      (repeat' split) <;> first | rfl | contradiction | (exfalso; simp only [Int32.lt_iff_toInt_lt, Int32.le_iff_toInt_le, ← Int32.toInt_inj, Int32.reduceToInt] at *; omega)) MO.rf
  · skip
    have h5 := bI1.mp h5
    refine z_iload_n F dX10_orderFor_8 2 rfl 9 rfl ?_
    refine z_iconst F dX10_orderFor_9 0 (by decide) 10 rfl ?_
    refine z_bipush F dX10_orderFor_10 40 (by decide) 12 rfl ?_
    refine z_callSp F dX10_orderFor_12 m_998 iX10_in m_999 rfl (kX10_in σ _ _ _) rfl (by decide) (Nat.le_of_ble_eq_true rfl) 15 rfl ?_
    refine z_if_ne F dX10_orderFor_15 25 (by decide) 18 rfl (fun h15 => ?_) (fun h15 => ?_)
    · skip
      have h15 := bI1.mp h15
      obtain ⟨i, hi, rfl⟩ := isP_of (n := nP (σ 1)) (hn ▸ h5) (by omega)
      have i31 : i < 2 ^ 31 := by omega
      obtain ⟨N, hN60, rfl⟩ : ∃ N, N < 41 ∧ n = nI N := isP_of (n := 41) ⟨by simp only [Int32.lt_iff_toInt_lt, Int32.le_iff_toInt_le, ← Int32.toInt_inj, Int32.reduceToInt] at *; omega, by show n < 41; simp only [Int32.lt_iff_toInt_lt, Int32.le_iff_toInt_le, ← Int32.toInt_inj, Int32.reduceToInt] at *; omega⟩ (by decide)
      have N31 : N < 2 ^ 31 := by omega
      have loop38 : ∀ (f : Nat) (v : Nat) (τ : z_M) (_ : 41 < v + f) (_ : v ≤ 41) (_ : τ 1 = σ 1) (_ : τ 3 = σ 1) (_ : MS [1, 3, 10, 11] σ τ) (_ : ∀ t, t < v → decide (seersN (goN N (upd (σ 1) 4 (nI t))) i = seersN (σ 1) i) = false), z_X l K E shM 8 6 (z_Pi (fun rv μ' => rv = (aOrderFor σ (nI i) (nI N)).1 ∧ MO (aOrderFor σ (nI i) (nI N)).2 μ')) 38 [(0, .ref (z_ad E 0)), (1, .int (nI i)), (2, .int (nI N)), (3, .int (nI (seersN (σ 1) i))), (4, .int (nI v))] [] τ := by
        intro f
        induction f with
        | zero =>
          intro v τ hf hv41 e1 e3 hs hno
          omega
        | succ f ih =>
          intro v τ hf hv41 e1 e3 hs hno
          refine z_iload F dX10_orderFor_38 4 rfl 40 rfl ?_
          refine z_bipush F dX10_orderFor_40 40 (by decide) 42 rfl ?_
          refine z_icmp_gt F dX10_orderFor_42 92 (by decide) 45 rfl (fun h42 => ?_) (fun h42 => ?_)
          · skip
            refine z_aload_n F dX10_orderFor_92 0 rfl 93 rfl ?_
            refine z_ldc F dX10_orderFor_93 m_1091 95 rfl ?_
            rw [lo2]
            refine z_callVi F dX10_orderFor_95 m_1002 iX10_error jX10_error rfl zc9 rfl (kX10_error τ (k := 2) (by decide) (by decide)) rfl (by decide) (Nat.le_of_ble_eq_true rfl) 98 rfl (fun r95 s95 c95 => ?_)
            refine z_ri F dX10_orderFor_98 ?_
            obtain ⟨rfl, rfl⟩ := c95
            have hk : v = 41 := by have := (nI_ltI (a := 40) (by decide) (by omega)).mp h42; omega
            refine finE ?_ (show MO σ τ from ?_)
            · unfold aOrderFor
              rw [if_pos ⟨h5, h15⟩, nI_clamp i31, nI_clamp N31, if_pos]
              exact fstF_none (fun t ht => hno t (by omega))
            · have hb := MO.back hs e3
              rw [e3, ← e1, up_id] at hb
              exact hb
          · skip
            have hv40 : v ≤ 40 := le_nI (b := 40) (i_nlt.mp h42) (by omega) (by decide)
            have hmv : MV 9999 (upd (σ 1) 4 (nI v)) := hR.mv.ord hv40
            refine z_aload_n F dX10_orderFor_45 0 rfl 46 rfl ?_
            refine z_getR F zc9 dX10_orderFor_46 rfl 0 (by decide) (by decide) (.inl m_930) rfl (by decide) 49 rfl ?_
            refine z_iconst F dX10_orderFor_49 4 (by decide) 50 rfl ?_
            refine z_iload F dX10_orderFor_50 4 rfl 52 rfl ?_
            refine z_iast F dX10_orderFor_52 rfl (show vp_in (nI 4) 385 from vp_in_nI (by decide) (by decide)) 53 rfl ?_
            rw [tn_4]
            generalize hm : z_u2 τ 1 4 (nI v) = m1
            have em1 : m1 1 = upd (σ 1) 4 (nI v) := by rw [← hm, z_u2, up_same, e1]
            have em3 : m1 3 = σ 1 := by rw [← hm, u2_o (by decide), e3]
            have sm : MS [1, 3, 10, 11] σ m1 := hm ▸ hs.u2 (by decide)
            refine z_aload_n F dX10_orderFor_53 0 rfl 54 rfl ?_
            refine z_iload_n F dX10_orderFor_54 2 rfl 55 rfl ?_
            refine z_callVv F dX10_orderFor_55 m_1185 iX10_goesFor jX10_goesFor rfl zc9 rfl (kX10_goesFor m1 (Y := 9999) (by rw [em1]; exact hmv) (by decide) (N := N) (by omega)) rfl (by decide) (Nat.le_of_ble_eq_true rfl) 58 rfl (fun s55 c55 => ?_)
            have hvk := hmv.goN (by decide) N (by omega)
            rw [← em1, ← c55.1] at hvk
            have es3 : s55 3 = σ 1 := (c55.2 3 (by decide)).trans em3
            have ss : MS [1, 3, 10, 11] σ s55 := sm.tr (c55.2.sub (by decide))
            have esn : seersN (s55 1) i = seersN (goN N (upd (σ 1) 4 (nI v))) i := by rw [c55.1, em1]
            refine z_aload_n F dX10_orderFor_58 0 rfl 59 rfl ?_
            refine z_iload_n F dX10_orderFor_59 1 rfl 60 rfl ?_
            refine z_callVp F dX10_orderFor_60 m_1245 iX10_seersOf jX10_seersOf rfl zc9 rfl (kX10_seersOf s55 hvk.1 hvk.2.2.2.2 (i := i) (by omega)) rfl (by decide) (Nat.le_of_ble_eq_true rfl) 63 rfl ?_
            refine z_iload_n F dX10_orderFor_63 3 rfl 64 rfl ?_
            refine z_icmp_ne F dX10_orderFor_64 71 (by decide) 67 rfl (fun h64 => ?_) (fun h64 => ?_)
            · skip
              refine z_iconst F dX10_orderFor_71 0 (by decide) 72 rfl ?_
              refine z_istore F dX10_orderFor_72 [(0, _), (1, _), (2, _), (3, _), (4, _), (5, _)] rfl (by decide) 74 rfl ?_
              refine z_aload_n F dX10_orderFor_74 0 rfl 75 rfl ?_
              refine z_callVu F dX10_orderFor_75 m_1229 iX10_putsBack jX10_putsBack rfl zc9 rfl (kX10_putsBack s55) rfl (by decide) (Nat.le_of_ble_eq_true rfl) 78 rfl ?_
              refine z_iload F dX10_orderFor_78 5 rfl 80 rfl ?_
              refine z_if_eq F dX10_orderFor_80 86 (by decide) 83 rfl (fun h80 => ?_) (fun h80 => ?_)
              · skip
                refine z_iinc F dX10_orderFor_86 4 rfl 1 (by decide) [(0, _), (1, _), (2, _), (3, _), (4, _), (5, _)] rfl (by decide) 89 rfl ?_
                refine z_goto F dX10_orderFor_89 38 (by decide) ?_
                rw [nI_1]
                refine z_sub [0, 1, 2, 3, 4] rfl (ih (v + 1) _ (by omega) (by omega) (by rw [up_same]; exact es3) (by rw [up_o (by decide)]; exact es3) (ss.up (by decide)) (fun t ht => ?_))
                rcases Nat.lt_or_ge t v with z | z
                · exact hno t z
                · rw [show t = v by omega]
                  refine decide_eq_false (fun y => h64 ?_)
                  rw [esn, y]
              · skip
                exact absurd rfl h80
            · skip
              refine z_iconst F dX10_orderFor_67 1 (by decide) 68 rfl ?_
              refine z_goto F dX10_orderFor_68 72 (by decide) ?_
              refine z_istore F dX10_orderFor_72 [(0, _), (1, _), (2, _), (3, _), (4, _), (5, _)] rfl (by decide) 74 rfl ?_
              refine z_aload_n F dX10_orderFor_74 0 rfl 75 rfl ?_
              refine z_callVu F dX10_orderFor_75 m_1229 iX10_putsBack jX10_putsBack rfl zc9 rfl (kX10_putsBack s55) rfl (by decide) (Nat.le_of_ble_eq_true rfl) 78 rfl ?_
              refine z_iload F dX10_orderFor_78 5 rfl 80 rfl ?_
              refine z_if_eq F dX10_orderFor_80 86 (by decide) 83 rfl (fun h80 => ?_) (fun h80 => ?_)
              · skip
                exact absurd h80 (by decide)
              · skip
                refine z_iload F dX10_orderFor_83 4 rfl 85 rfl ?_
                refine z_ri F dX10_orderFor_85 ?_
                have he : seersN (goN N (upd (σ 1) 4 (nI v))) i = seersN (σ 1) i := by
                  rw [← esn]; exact eq_nI h64 (seers_lt hvk.1.2.1 i) (seers_lt hR.n8 i)
                have ek : ordN (σ 1) i N = v := fstF_is (p := fun v => decide (seersN (goN N (upd (σ 1) 4 (nI v))) i = seersN (σ 1) i)) (by omega) (decide_eq_true he) hno
                refine finM (m := σ) ?_ (MO.back ss es3)
                unfold aOrderFor
                rw [if_pos ⟨h5, h15⟩, nI_clamp i31, nI_clamp N31, ek, if_neg (by omega)]
      refine z_aload_n F dX10_orderFor_25 0 rfl 26 rfl ?_
      refine z_callVu F dX10_orderFor_26 m_1222 iX10_thinks jX10_thinks rfl zc9 rfl (kX10_thinks σ) rfl (by decide) (Nat.le_of_ble_eq_true rfl) 29 rfl ?_
      refine z_aload_n F dX10_orderFor_29 0 rfl 30 rfl ?_
      refine z_iload_n F dX10_orderFor_30 1 rfl 31 rfl ?_
      refine z_callVp F dX10_orderFor_31 m_1245 iX10_seersOf jX10_seersOf rfl zc9 rfl (kX10_seersOf _ (by rw [up_o (by decide)]; exact hR.vk) (Y := 9999) (by rw [up_o (by decide)]; exact hR.vt) (i := i) (by omega)) rfl (by decide) (Nat.le_of_ble_eq_true rfl) 34 rfl ?_
      rw [up_o (show (1 : Nat) ≠ 3 by decide)]
      refine z_istore_n F dX10_orderFor_34 [(0, _), (1, _), (2, _), (3, _)] rfl (by decide) 35 rfl ?_
      refine z_iconst F dX10_orderFor_35 0 (by decide) 36 rfl ?_
      refine z_istore F dX10_orderFor_36 [(0, _), (1, _), (2, _), (3, _), (4, _)] rfl (by decide) 38 rfl ?_
      exact loop38 42 0 _ (by omega) (by omega) (up_o (by decide)) up_same (MS.rf.up (by decide)) (fun t ht => by omega)
    · skip
      have h15 := bI0.mp h15
      refine z_aload_n F dX10_orderFor_18 0 rfl 19 rfl ?_
      refine z_ldc F dX10_orderFor_19 m_1001 21 rfl ?_
      rw [lo1]
      refine z_callVi F dX10_orderFor_21 m_1002 iX10_error jX10_error rfl zc9 rfl (kX10_error σ (k := 1) (by decide) (by decide)) rfl (by decide) (Nat.le_of_ble_eq_true rfl) 24 rfl (fun r21 s21 c21 => ?_)
      refine z_ri F dX10_orderFor_24 ?_
      obtain ⟨rfl, rfl⟩ := c21
      exact finM (by
        unfold aOrderFor
        (repeat' split) <;> first | rfl | contradiction | (exfalso; simp only [Int32.lt_iff_toInt_lt, Int32.le_iff_toInt_le, ← Int32.toInt_inj, Int32.reduceToInt] at *; omega)) MO.rf
