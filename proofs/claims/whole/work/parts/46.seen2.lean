/-! the reference: witnesses, odds -/
def wB (x : Nat) : Int32 := if x = 256 then -1 else nI x
def odN : Nat → Nat → Nat → Nat × Nat
  | 0, t, b => (t, b)
  | d + 1, t, b => if 1 < d + 1 ∧ t % (d + 1) = 0 ∧ b % (d + 1) = 0 then odN d (t / (d + 1)) (b / (d + 1)) else odN d t b
theorem od_at : ∀ b, b < 9 → ∀ t, t < 9 → 1 ≤ b → odN b t b = (t / gdF t b b, b / gdF t b b) := by decide +kernel
theorem wit_lt {r : Rw} {P : Int32} {s : Nat} (hs : s ≤ 256) (h : ¬ witS r P s = 256) : witS r P s < 256 := by
  rcases wit_rng r P s with z | z
  · exact absurd z h
  · omega
theorem or_z (x : Nat) : x ||| 0 = x := Nat.or_zero x
set_option maxHeartbeats 400000 in
set_option maxRecDepth 10000 in
theorem kX10_seenBy {l : Launch} {E : z_E} (σ : z_M) (hV : VK (σ 1)) {Y : Nat} (hT : VT Y (σ 1)) {s : Nat} (hs : s < 256) : z_C l E shM 1 yX10_seenBy cX10_seenBy 4 (some FieldType.int) [.ref (z_ad E 0), .int (nI s)] σ (z_Pp (nI (seenN (σ 1) s)) σ) := by
  refine z_intro iX10_seenBy (Nat.le_of_ble_eq_true rfl) (fun K F => ?_)
  have loop4 : ∀ (f : Nat) (q : Nat) (_ : 8 < q + f) (_ : q ≤ nP (σ 1)), z_X l K E shM 1 4 (z_Pp (nI (seenN (σ 1) s)) σ) 4 [(0, .ref (z_ad E 0)), (1, .int (nI s)), (2, .int (nI (orS (fun q => if s.testBit q then sN (σ 1) q else 0) q))), (3, .int (nI q))] [] σ := by
    intro f
    induction f with
    | zero =>
      intro q hf hq
      have := hV.2.1
      omega
    | succ f ih =>
      intro q hf hq
      have h8 := hV.2.1
      refine z_iload_n F dX10_seenBy_4 3 rfl 5 rfl ?_
      refine z_aload_n F dX10_seenBy_5 0 rfl 6 rfl ?_
      refine z_getR F zc9 dX10_seenBy_6 rfl 0 (by decide) (by decide) (.inl m_930) rfl (by decide) 9 rfl ?_
      refine z_iconst F dX10_seenBy_9 2 (by decide) 10 rfl ?_
      refine z_iald F dX10_seenBy_10 rfl (show vp_in (nI 2) 385 from vp_in_nI (by decide) (by decide)) 11 rfl ?_
      rw [tn_2]
      rw [hV.1]
      refine z_icmp_ge F dX10_seenBy_11 42 (by decide) 14 rfl (fun h11 => ?_) (fun h11 => ?_)
      · skip
        refine z_iload_n F dX10_seenBy_42 2 rfl 43 rfl ?_
        refine z_rp F dX10_seenBy_43 ?_ rfl
        have hqe : q = nP (σ 1) := by have := le_nI h11 (by omega) (by omega); omega
        rw [hqe]; rfl
      · skip
        have hq2 : q < nP (σ 1) := nle_nI h11 (by omega) (by omega)
        refine z_iload_n F dX10_seenBy_14 2 rfl 15 rfl ?_
        refine z_iload_n F dX10_seenBy_15 1 rfl 16 rfl ?_
        refine z_iload_n F dX10_seenBy_16 3 rfl 17 rfl ?_
        refine z_ishr F dX10_seenBy_17 18 rfl ?_
        refine z_iconst F dX10_seenBy_18 1 (by decide) 19 rfl ?_
        refine z_iand F dX10_seenBy_19 20 rfl ?_
        rw [bit_nI s hs q (by omega)]
        refine z_iconst F dX10_seenBy_20 1 (by decide) 21 rfl ?_
        refine z_icmp_ne F dX10_seenBy_21 33 (by decide) 24 rfl (fun h21 => ?_) (fun h21 => ?_)
        · skip
          refine z_iconst F dX10_seenBy_33 0 (by decide) 34 rfl ?_
          refine z_ior F dX10_seenBy_34 35 rfl ?_
          rw [or0_I]
          refine z_istore_n F dX10_seenBy_35 [(0, _), (1, _), (2, _), (3, _)] rfl (by decide) 36 rfl ?_
          refine z_iinc F dX10_seenBy_36 3 rfl 1 (by decide) [(0, _), (1, _), (2, _), (3, _)] rfl (by decide) 39 rfl ?_
          refine z_goto F dX10_seenBy_39 4 (by decide) ?_
          have tb : ¬ s.testBit q = true := fun z => by rw [z] at h21; exact absurd rfl h21
          have L := ih (q + 1) (by omega) (by omega)
          rw [orS_s] at L
          rw [if_neg tb, or_z] at L
          rw [nI_1]
          exact L
        · skip
          refine z_aload_n F dX10_seenBy_24 0 rfl 25 rfl ?_
          refine z_iload_n F dX10_seenBy_25 3 rfl 26 rfl ?_
          refine z_iconst F dX10_seenBy_26 4 (by decide) 27 rfl ?_
          refine z_callVp F dX10_seenBy_27 m_1020 iX10_of jX10_of rfl zc9 rfl (kX10_of σ (p := q) (w := 4) (by omega) (by decide)) rfl (by decide) (Nat.le_of_ble_eq_true rfl) 30 rfl ?_
          rw [(sN_lt hT hV q).2.2 hq2]
          refine z_goto F dX10_seenBy_30 34 (by decide) ?_
          refine z_ior F dX10_seenBy_34 35 rfl ?_
          rw [or_nI]
          refine z_istore_n F dX10_seenBy_35 [(0, _), (1, _), (2, _), (3, _)] rfl (by decide) 36 rfl ?_
          refine z_iinc F dX10_seenBy_36 3 rfl 1 (by decide) [(0, _), (1, _), (2, _), (3, _)] rfl (by decide) 39 rfl ?_
          refine z_goto F dX10_seenBy_39 4 (by decide) ?_
          have tb : s.testBit q = true := by
            cases z : s.testBit q
            · rw [z] at h21; exact absurd h21 (by decide)
            · rfl
          have L := ih (q + 1) (by omega) (by omega)
          rw [orS_s] at L
          rw [if_pos tb] at L
          rw [nI_1]
          exact L
  refine z_iconst F dX10_seenBy_0 0 (by decide) 1 rfl ?_
  refine z_istore_n F dX10_seenBy_1 [(0, _), (1, _), (2, _)] rfl (by decide) 2 rfl ?_
  refine z_iconst F dX10_seenBy_2 0 (by decide) 3 rfl ?_
  refine z_istore_n F dX10_seenBy_3 [(0, _), (1, _), (2, _), (3, _)] rfl (by decide) 4 rfl ?_
  exact loop4 9 0 (by omega) (by omega)
set_option maxHeartbeats 400000 in
set_option maxRecDepth 10000 in
theorem kX10_everybody {l : Launch} {E : z_E} (σ : z_M) (hn : σ 1 2 = nI (nP (σ 1)) ∧ nP (σ 1) ≤ 8) : z_C l E shM 0 yX10_everybody cX10_everybody 1 (some FieldType.int) [.ref (z_ad E 0)] σ (z_Pp (nI (2 ^ nP (σ 1) - 1)) σ) := by
  refine z_intro iX10_everybody (Nat.le_of_ble_eq_true rfl) (fun K F => ?_)
  refine z_iconst F dX10_everybody_0 1 (by decide) 1 rfl ?_
  refine z_aload_n F dX10_everybody_1 0 rfl 2 rfl ?_
  refine z_getR F zc9 dX10_everybody_2 rfl 0 (by decide) (by decide) (.inl m_930) rfl (by decide) 5 rfl ?_
  refine z_iconst F dX10_everybody_5 2 (by decide) 6 rfl ?_
  refine z_iald F dX10_everybody_6 rfl (show vp_in (nI 2) 385 from vp_in_nI (by decide) (by decide)) 7 rfl ?_
  rw [tn_2]
  rw [hn.1]
  refine z_ishl F dX10_everybody_7 8 rfl ?_
  rw [shl_nI _ (by omega)]
  refine z_iconst F dX10_everybody_8 1 (by decide) 9 rfl ?_
  refine z_isub F dX10_everybody_9 10 rfl ?_
  rw [show nI (2 ^ nP (σ 1)) - 1 = nI (2 ^ nP (σ 1) - 1) from pk_sub (b := 1) (Nat.pow_pos (by decide))]
  refine z_rp F dX10_everybody_10 ?_ rfl
  rfl
set_option maxHeartbeats 400000 in
set_option maxRecDepth 10000 in
theorem kX10_witnesses {l : Launch} {E : z_E} (σ : z_M) {τ0 : z_M} (hR : Rel τ0 σ) (P : Int32)  : z_C l E shM 2 yX10_witnesses cX10_witnesses 5 (some FieldType.int) [.ref (z_ad E 0), .int P] σ (z_Pi (fun rv μ' => rv = (aWitnesses σ P).1 ∧ MO (aWitnesses σ P).2 μ')) := by
  refine z_intro iX10_witnesses (Nat.le_of_ble_eq_true rfl) (fun K F => ?_)
  have hn : σ 1 2 = nI (nP (σ 1)) := hR.2.1.1.1
  have h8 : nP (σ 1) ≤ 8 := hR.n8
  have hN : σ 1 2 = nI (nP (σ 1)) ∧ nP (σ 1) ≤ 8 := ⟨hn, h8⟩
  have p256 : 2 ^ nP (σ 1) ≤ 256 := Nat.pow_le_pow_right (n := 2) (by decide) h8
  have p1 : 1 ≤ 2 ^ nP (σ 1) := Nat.pow_pos (by decide)
  have hiff : P ≤ nI (2 ^ nP (σ 1) - 1) ∧ 0 ≤ P ↔ P < nI (2 ^ nP (σ 1)) ∧ 0 ≤ P := by
    refine ⟨fun z => ⟨?_, z.2⟩, fun z => ⟨?_, z.2⟩⟩
    · obtain ⟨j, hj, rfl⟩ := nI_of (i_nlt.mpr z.2)
      have := le_nI z.1 hj (by omega)
      exact nI_lt (by omega) (by omega)
    · obtain ⟨j, hj, rfl⟩ := nI_of (i_nlt.mpr z.2)
      have := (nI_ltI hj (by omega)).mp z.1
      exact nI_le (by omega) (by omega)
  refine z_iload_n F dX10_witnesses_0 1 rfl 1 rfl ?_
  refine z_iconst F dX10_witnesses_1 0 (by decide) 2 rfl ?_
  refine z_aload_n F dX10_witnesses_2 0 rfl 3 rfl ?_
  refine z_callVp F dX10_witnesses_3 m_1257 iX10_everybody jX10_everybody rfl zc9 rfl (kX10_everybody σ hN) rfl (by decide) (Nat.le_of_ble_eq_true rfl) 6 rfl ?_
  refine z_callSp F dX10_witnesses_6 m_998 iX10_in m_999 rfl (kX10_in σ _ _ _) rfl (by decide) (Nat.le_of_ble_eq_true rfl) 9 rfl ?_
  refine z_if_ne F dX10_witnesses_9 19 (by decide) 12 rfl (fun h9 => ?_) (fun h9 => ?_)
  · skip
    have h9 := bI1.mp h9
    have hP : 0 ≤ P ∧ P < nI (2 ^ nP (σ 1)) := ⟨h9.1, (hiff.mp ⟨h9.2, h9.1⟩).1⟩
    have loop23 : ∀ (f : Nat) (s : Nat) (_ : 256 < s + f) (_ : s ≤ 2 ^ nP (σ 1)), z_X l K E shM 2 5 (z_Pi (fun rv μ' => rv = (aWitnesses σ P).1 ∧ MO (aWitnesses σ P).2 μ')) 23 [(0, .ref (z_ad E 0)), (1, .int P), (2, .int (wB (witS (σ 1) P s))), (3, .int (nI s))] [] σ := by
      intro f
      induction f with
      | zero =>
        intro s hf hs
        omega
      | succ f ih =>
        intro s hf hs
        refine z_iload_n F dX10_witnesses_23 3 rfl 24 rfl ?_
        refine z_aload_n F dX10_witnesses_24 0 rfl 25 rfl ?_
        refine z_callVp F dX10_witnesses_25 m_1257 iX10_everybody jX10_everybody rfl zc9 rfl (kX10_everybody σ hN) rfl (by decide) (Nat.le_of_ble_eq_true rfl) 28 rfl ?_
        refine z_icmp_gt F dX10_witnesses_28 82 (by decide) 31 rfl (fun h28 => ?_) (fun h28 => ?_)
        · skip
          refine z_iload_n F dX10_witnesses_82 2 rfl 83 rfl ?_
          refine z_if_ge F dX10_witnesses_83 95 (by decide) 86 rfl (fun h83 => ?_) (fun h83 => ?_)
          · skip
            refine z_iload_n F dX10_witnesses_95 2 rfl 96 rfl ?_
            refine z_ri F dX10_witnesses_96 ?_
            have hse : s = 2 ^ nP (σ 1) := by have := (nI_ltI (by omega) (by omega)).mp h28; omega
            subst hse
            have hw : ¬ witS (σ 1) P (2 ^ nP (σ 1)) = 256 := fun z => by unfold wB at h83; rw [if_pos z] at h83; exact absurd h83 (by decide)
            rw [show wB (witS (σ 1) P (2 ^ nP (σ 1))) = nI (witS (σ 1) P (2 ^ nP (σ 1))) from if_neg hw]
            refine finM (m := σ) ?_ MO.rf
            unfold aWitnesses
            rw [if_pos hP, if_neg hw]
          · skip
            refine z_aload_n F dX10_witnesses_86 0 rfl 87 rfl ?_
            refine z_ldc F dX10_witnesses_87 m_1091 89 rfl ?_
            rw [lo2]
            refine z_callVi F dX10_witnesses_89 m_1002 iX10_error jX10_error rfl zc9 rfl (kX10_error σ (k := 2) (by decide) (by decide)) rfl (by decide) (Nat.le_of_ble_eq_true rfl) 92 rfl (fun r89 s89 c89 => ?_)
            refine z_goto F dX10_witnesses_92 96 (by decide) ?_
            refine z_ri F dX10_witnesses_96 ?_
            have hse : s = 2 ^ nP (σ 1) := by have := (nI_ltI (by omega) (by omega)).mp h28; omega
            subst hse
            have hw : witS (σ 1) P (2 ^ nP (σ 1)) = 256 := Decidable.byContradiction (fun z => h83 (by unfold wB; rw [if_neg z]; exact nI_pos' (by have := wit_lt (r := σ 1) (P := P) (s := 2 ^ nP (σ 1)) (by omega) z; omega)))
            obtain ⟨rfl, rfl⟩ := c89
            refine finM ?_ MO.rf
            unfold aWitnesses
            rw [if_pos hP, if_pos hw]
        · skip
          have hsn : s < 2 ^ nP (σ 1) := by have := le_nI (i_nlt.mp h28) (by omega) (by omega); omega
          refine z_iload_n F dX10_witnesses_31 2 rfl 32 rfl ?_
          refine z_if_lt F dX10_witnesses_32 46 (by decide) 35 rfl (fun h32 => ?_) (fun h32 => ?_)
          · skip
            refine z_iconst F dX10_witnesses_46 1 (by decide) 47 rfl ?_
            refine z_goto F dX10_witnesses_47 51 (by decide) ?_
            refine z_istore F dX10_witnesses_51 [(0, _), (1, _), (2, _), (3, _), (4, _)] rfl (by decide) 53 rfl ?_
            refine z_iload F dX10_witnesses_53 4 rfl 55 rfl ?_
            refine z_if_eq F dX10_witnesses_55 74 (by decide) 58 rfl (fun h55 => ?_) (fun h55 => ?_)
            · skip
              exact absurd h55 (by decide)
            · skip
              refine z_iload_n F dX10_witnesses_58 1 rfl 59 rfl ?_
              refine z_aload_n F dX10_witnesses_59 0 rfl 60 rfl ?_
              refine z_iload_n F dX10_witnesses_60 3 rfl 61 rfl ?_
              refine z_callVp F dX10_witnesses_61 m_1261 iX10_seenBy jX10_seenBy rfl zc9 rfl (kX10_seenBy σ hR.vk hR.vt (s := s) (by omega)) rfl (by decide) (Nat.le_of_ble_eq_true rfl) 64 rfl ?_
              refine z_iconst F dX10_witnesses_64 (-1) (by decide) 65 rfl ?_
              refine z_ixor F dX10_witnesses_65 66 rfl ?_
              refine z_iand F dX10_witnesses_66 67 rfl ?_
              refine z_if_ne F dX10_witnesses_67 74 (by decide) 70 rfl (fun h67 => ?_) (fun h67 => ?_)
              · skip
                refine z_iload_n F dX10_witnesses_74 2 rfl 75 rfl ?_
                refine z_istore_n F dX10_witnesses_75 [(0, _), (1, _), (2, _), (3, _), (4, _)] rfl (by decide) 76 rfl ?_
                refine z_iinc F dX10_witnesses_76 3 rfl 1 (by decide) [(0, _), (1, _), (2, _), (3, _), (4, _)] rfl (by decide) 79 rfl ?_
                refine z_goto F dX10_witnesses_79 23 (by decide) ?_
                have L := ih (s + 1) (by omega) (by omega)
                have es : witS (σ 1) P (s + 1) = witS (σ 1) P s := if_neg (fun z => h67 z.2)
                rw [es] at L
                rw [nI_1]
                exact z_sub [0, 1, 2, 3] rfl L
              · skip
                refine z_iload_n F dX10_witnesses_70 3 rfl 71 rfl ?_
                refine z_goto F dX10_witnesses_71 75 (by decide) ?_
                refine z_istore_n F dX10_witnesses_75 [(0, _), (1, _), (2, _), (3, _), (4, _)] rfl (by decide) 76 rfl ?_
                refine z_iinc F dX10_witnesses_76 3 rfl 1 (by decide) [(0, _), (1, _), (2, _), (3, _), (4, _)] rfl (by decide) 79 rfl ?_
                refine z_goto F dX10_witnesses_79 23 (by decide) ?_
                have L := ih (s + 1) (by omega) (by omega)
                have ec : (witS (σ 1) P s = 256 ∨ pcN s < pcN (witS (σ 1) P s)) ∧ P &&& (nI (seenN (σ 1) s) ^^^ (-1)) = 0 := ⟨Or.inl (Decidable.byContradiction (fun z => absurd h32 (by unfold wB; rw [if_neg z]; exact nI_pos (by have := wit_lt (r := σ 1) (P := P) (s := s) (by omega) z; omega)))), h67⟩
                have es : witS (σ 1) P (s + 1) = s := if_pos ec
                rw [es, show wB s = nI s from if_neg (by omega)] at L
                rw [nI_1]
                exact z_sub [0, 1, 2, 3] rfl L
          · skip
            have hw : ¬ witS (σ 1) P s = 256 := fun z => by unfold wB at h32; rw [if_pos z] at h32; exact absurd h32 (by decide)
            have hwl := wit_lt (by omega) hw
            have ewb : wB (witS (σ 1) P s) = nI (witS (σ 1) P s) := if_neg hw
            rw [ewb]
            refine z_iload_n F dX10_witnesses_35 3 rfl 36 rfl ?_
            refine z_callSp F dX10_witnesses_36 m_1044 iX10_bits m_1045 rfl (kX10_bits σ (s := s) (by omega)) rfl (by decide) (Nat.le_of_ble_eq_true rfl) 39 rfl ?_
            refine z_iload_n F dX10_witnesses_39 2 rfl 40 rfl ?_
            refine z_callSp F dX10_witnesses_40 m_1044 iX10_bits m_1045 rfl (kX10_bits σ (s := witS (σ 1) P s) hwl) rfl (by decide) (Nat.le_of_ble_eq_true rfl) 43 rfl ?_
            refine z_icmp_ge F dX10_witnesses_43 50 (by decide) 46 rfl (fun h43 => ?_) (fun h43 => ?_)
            · skip
              refine z_iconst F dX10_witnesses_50 0 (by decide) 51 rfl ?_
              refine z_istore F dX10_witnesses_51 [(0, _), (1, _), (2, _), (3, _), (4, _)] rfl (by decide) 53 rfl ?_
              refine z_iload F dX10_witnesses_53 4 rfl 55 rfl ?_
              refine z_if_eq F dX10_witnesses_55 74 (by decide) 58 rfl (fun h55 => ?_) (fun h55 => ?_)
              · skip
                refine z_iload_n F dX10_witnesses_74 2 rfl 75 rfl ?_
                refine z_istore_n F dX10_witnesses_75 [(0, _), (1, _), (2, _), (3, _), (4, _)] rfl (by decide) 76 rfl ?_
                refine z_iinc F dX10_witnesses_76 3 rfl 1 (by decide) [(0, _), (1, _), (2, _), (3, _), (4, _)] rfl (by decide) 79 rfl ?_
                refine z_goto F dX10_witnesses_79 23 (by decide) ?_
                have L := ih (s + 1) (by omega) (by omega)
                have es : witS (σ 1) P (s + 1) = witS (σ 1) P s := if_neg (fun z => (by rcases z.1 with z1 | z1; exact hw z1; (have := le_nI h43 (by have := cntB_le (fun i => (witS (σ 1) P s).testBit i) 8; unfold pcN; omega) (by have := cntB_le (fun i => s.testBit i) 8; unfold pcN; omega)); omega))
                rw [es] at L
                rw [ewb] at L
                rw [nI_1]
                exact z_sub [0, 1, 2, 3] rfl L
              · skip
                exact absurd rfl h55
            · skip
              refine z_iconst F dX10_witnesses_46 1 (by decide) 47 rfl ?_
              refine z_goto F dX10_witnesses_47 51 (by decide) ?_
              refine z_istore F dX10_witnesses_51 [(0, _), (1, _), (2, _), (3, _), (4, _)] rfl (by decide) 53 rfl ?_
              refine z_iload F dX10_witnesses_53 4 rfl 55 rfl ?_
              refine z_if_eq F dX10_witnesses_55 74 (by decide) 58 rfl (fun h55 => ?_) (fun h55 => ?_)
              · skip
                exact absurd h55 (by decide)
              · skip
                refine z_iload_n F dX10_witnesses_58 1 rfl 59 rfl ?_
                refine z_aload_n F dX10_witnesses_59 0 rfl 60 rfl ?_
                refine z_iload_n F dX10_witnesses_60 3 rfl 61 rfl ?_
                refine z_callVp F dX10_witnesses_61 m_1261 iX10_seenBy jX10_seenBy rfl zc9 rfl (kX10_seenBy σ hR.vk hR.vt (s := s) (by omega)) rfl (by decide) (Nat.le_of_ble_eq_true rfl) 64 rfl ?_
                refine z_iconst F dX10_witnesses_64 (-1) (by decide) 65 rfl ?_
                refine z_ixor F dX10_witnesses_65 66 rfl ?_
                refine z_iand F dX10_witnesses_66 67 rfl ?_
                refine z_if_ne F dX10_witnesses_67 74 (by decide) 70 rfl (fun h67 => ?_) (fun h67 => ?_)
                · skip
                  refine z_iload_n F dX10_witnesses_74 2 rfl 75 rfl ?_
                  refine z_istore_n F dX10_witnesses_75 [(0, _), (1, _), (2, _), (3, _), (4, _)] rfl (by decide) 76 rfl ?_
                  refine z_iinc F dX10_witnesses_76 3 rfl 1 (by decide) [(0, _), (1, _), (2, _), (3, _), (4, _)] rfl (by decide) 79 rfl ?_
                  refine z_goto F dX10_witnesses_79 23 (by decide) ?_
                  have L := ih (s + 1) (by omega) (by omega)
                  have es : witS (σ 1) P (s + 1) = witS (σ 1) P s := if_neg (fun z => h67 z.2)
                  rw [es] at L
                  rw [ewb] at L
                  rw [nI_1]
                  exact z_sub [0, 1, 2, 3] rfl L
                · skip
                  refine z_iload_n F dX10_witnesses_70 3 rfl 71 rfl ?_
                  refine z_goto F dX10_witnesses_71 75 (by decide) ?_
                  refine z_istore_n F dX10_witnesses_75 [(0, _), (1, _), (2, _), (3, _), (4, _)] rfl (by decide) 76 rfl ?_
                  refine z_iinc F dX10_witnesses_76 3 rfl 1 (by decide) [(0, _), (1, _), (2, _), (3, _), (4, _)] rfl (by decide) 79 rfl ?_
                  refine z_goto F dX10_witnesses_79 23 (by decide) ?_
                  have L := ih (s + 1) (by omega) (by omega)
                  have ec : (witS (σ 1) P s = 256 ∨ pcN s < pcN (witS (σ 1) P s)) ∧ P &&& (nI (seenN (σ 1) s) ^^^ (-1)) = 0 := ⟨Or.inr (nle_nI h43 (by have := cntB_le (fun i => (witS (σ 1) P s).testBit i) 8; unfold pcN; omega) (by have := cntB_le (fun i => s.testBit i) 8; unfold pcN; omega)), h67⟩
                  have es : witS (σ 1) P (s + 1) = s := if_pos ec
                  rw [es, show wB s = nI s from if_neg (by omega)] at L
                  rw [nI_1]
                  exact z_sub [0, 1, 2, 3] rfl L
    refine z_iconst F dX10_witnesses_19 (-1) (by decide) 20 rfl ?_
    refine z_istore_n F dX10_witnesses_20 [(0, _), (1, _), (2, _)] rfl (by decide) 21 rfl ?_
    refine z_iconst F dX10_witnesses_21 0 (by decide) 22 rfl ?_
    refine z_istore_n F dX10_witnesses_22 [(0, _), (1, _), (2, _), (3, _)] rfl (by decide) 23 rfl ?_
    exact loop23 257 0 (by omega) (by omega)
  · skip
    have h9 := bI0.mp h9
    refine z_aload_n F dX10_witnesses_12 0 rfl 13 rfl ?_
    refine z_ldc F dX10_witnesses_13 m_1001 15 rfl ?_
    rw [lo1]
    refine z_callVi F dX10_witnesses_15 m_1002 iX10_error jX10_error rfl zc9 rfl (kX10_error σ (k := 1) (by decide) (by decide)) rfl (by decide) (Nat.le_of_ble_eq_true rfl) 18 rfl (fun r15 s15 c15 => ?_)
    refine z_ri F dX10_witnesses_18 ?_
    obtain ⟨rfl, rfl⟩ := c15
    exact finM (by
      unfold aWitnesses
      rw [if_neg (fun z => h9 ⟨z.1, (hiff.mpr ⟨z.2, z.1⟩).1⟩)]) MO.rf
set_option maxHeartbeats 1000000 in
set_option maxRecDepth 10000 in
theorem kX10_odds {l : Launch} {E : z_E} (σ : z_M) {τ0 : z_M} (hR : Rel τ0 σ) (x : Int32) (w : Int32)  : z_C l E shM 6 yX10_odds cX10_odds 6 (some FieldType.int) [.ref (z_ad E 0), .int x, .int w] σ (z_Pi (fun rv μ' => rv = (aOdds σ x w).1 ∧ MO (aOdds σ x w).2 μ')) := by
  refine z_intro iX10_odds (Nat.le_of_ble_eq_true rfl) (fun K F => ?_)
  have hn : σ 1 2 = nI (nP (σ 1)) := hR.2.1.1.1
  have h8 : nP (σ 1) ≤ 8 := hR.n8
  have hN : σ 1 2 = nI (nP (σ 1)) ∧ nP (σ 1) ≤ 8 := ⟨hn, h8⟩
  refine z_aload_n F dX10_odds_0 0 rfl 1 rfl ?_
  refine z_iload_n F dX10_odds_1 1 rfl 2 rfl ?_
  refine z_callVp F dX10_odds_2 m_1016 iX10_isPerson jX10_isPerson rfl zc9 rfl (kX10_isPerson σ hN _) rfl (by decide) (Nat.le_of_ble_eq_true rfl) 5 rfl ?_
  refine z_if_eq F dX10_odds_5 17 (by decide) 8 rfl (fun h5 => ?_) (fun h5 => ?_)
  · skip
    have h5 := bI0.mp h5
    refine z_aload_n F dX10_odds_17 0 rfl 18 rfl ?_
    refine z_ldc F dX10_odds_18 m_1001 20 rfl ?_
    rw [lo1]
    refine z_callVi F dX10_odds_20 m_1002 iX10_error jX10_error rfl zc9 rfl (kX10_error σ (k := 1) (by decide) (by decide)) rfl (by decide) (Nat.le_of_ble_eq_true rfl) 23 rfl (fun r20 s20 c20 => ?_)
    refine z_ri F dX10_odds_23 ?_
    obtain ⟨rfl, rfl⟩ := c20
    exact finM (by
      unfold aOdds
      (repeat' split) <;> first | rfl | contradiction | (exfalso; simp only [Int32.lt_iff_toInt_lt, Int32.le_iff_toInt_le, ← Int32.toInt_inj, Int32.reduceToInt] at *; omega)) MO.rf
  · skip
    have h5 := bI1.mp h5
    refine z_iload_n F dX10_odds_8 2 rfl 9 rfl ?_
    refine z_iconst F dX10_odds_9 0 (by decide) 10 rfl ?_
    refine z_iconst F dX10_odds_10 1 (by decide) 11 rfl ?_
    refine z_callSp F dX10_odds_11 m_998 iX10_in m_999 rfl (kX10_in σ _ _ _) rfl (by decide) (Nat.le_of_ble_eq_true rfl) 14 rfl ?_
    refine z_if_ne F dX10_odds_14 24 (by decide) 17 rfl (fun h14 => ?_) (fun h14 => ?_)
    · skip
      have h14 := bI1.mp h14
      obtain ⟨i, hi, rfl⟩ := isP_of (n := nP (σ 1)) (hn ▸ h5) (by omega)
      have i31 : i < 2 ^ 31 := by omega
      refine z_aload_n F dX10_odds_24 0 rfl 25 rfl ?_
      refine z_getR F zc9 dX10_odds_25 rfl 0 (by decide) (by decide) (.inl m_930) rfl (by decide) 28 rfl ?_
      refine z_iconst F dX10_odds_28 2 (by decide) 29 rfl ?_
      refine z_iald F dX10_odds_29 rfl (show vp_in (nI 2) 385 from vp_in_nI (by decide) (by decide)) 30 rfl ?_
      rw [tn_2]
      refine z_iconst F dX10_odds_30 1 (by decide) 31 rfl ?_
      refine z_isub F dX10_odds_31 32 rfl ?_
      rw [hn, show nI (nP (σ 1)) - 1 = nI (nP (σ 1) - 1) from pk_sub (b := 1) (by omega)]
      refine z_istore_n F dX10_odds_32 [(0, _), (1, _), (2, _), (3, _)] rfl (by decide) 33 rfl ?_
      refine z_iload_n F dX10_odds_33 3 rfl 34 rfl ?_
      refine z_if_ne F dX10_odds_34 44 (by decide) 37 rfl (fun h34 => ?_) (fun h34 => ?_)
      · skip
        have h34 : ¬ nP (σ 1) - 1 = 0 := fun z => h34 (by rw [z]; rfl)
        have hbn : ¬ σ 1 2 - 1 < 1 := by rw [hn, show nI (nP (σ 1)) - 1 = nI (nP (σ 1) - 1) from pk_sub (b := 1) (by omega)]; exact nI_nlt (b := 1) (by omega) (by omega)
        have hth : thruN (σ 1) i < 9 := by have := cntB_le (fun o => o != i && decide (veilS (σ 1) o i ≤ sightS (σ 1) i)) (nP (σ 1)); unfold thruN; omega
        have loop101 : ∀ (f : Nat) (d t b : Nat) (τ : z_M) (_ : d < f) (_ : d < 9) (_ : t < 9) (_ : b < 9) (_ : MS [10, 11] σ τ) (_ : odN d t b = odN (nP (σ 1) - 1) (thruN (σ 1) i) (nP (σ 1) - 1)), z_X l K E shM 6 6 (z_Pi (fun rv μ' => rv = (aOdds σ (nI i) w).1 ∧ MO (aOdds σ (nI i) w).2 μ')) 101 [(0, .ref (z_ad E 0)), (1, .int (nI i)), (2, .int w), (3, .int (nI b)), (4, .int (nI t)), (5, .int (nI d))] [] τ := by
          intro f
          induction f with
          | zero =>
            intro d t b τ hf hd ht hb hs he
            omega
          | succ f ih =>
            intro d t b τ hf hd ht hb hs he
            refine z_iload F dX10_odds_101 5 rfl 103 rfl ?_
            refine z_iconst F dX10_odds_103 1 (by decide) 104 rfl ?_
            refine z_icmp_le F dX10_odds_104 140 (by decide) 107 rfl (fun h104 => ?_) (fun h104 => ?_)
            · skip
              refine z_iload_n F dX10_odds_140 2 rfl 141 rfl ?_
              refine z_if_ne F dX10_odds_141 149 (by decide) 144 rfl (fun h141 => ?_) (fun h141 => ?_)
              · skip
                refine z_iload_n F dX10_odds_149 3 rfl 150 rfl ?_
                refine z_ri F dX10_odds_150 ?_
                have hd1 : d ≤ 1 := le_nI (b := 1) h104 (by omega) (by decide)
                have ho : odN d t b = (t, b) := by rcases (show d = 0 ∨ d = 1 by omega) with rfl | rfl <;> rfl
                rw [ho, od_at _ (by omega) _ hth (by omega)] at he
                refine finM (m := σ) ?_ (MO.g hs)
                unfold aOdds
                rw [if_pos ⟨h5, h14⟩, if_neg hbn, nI_clamp i31, if_neg h141, ← (Prod.mk.inj he).2]
              · skip
                refine z_iload F dX10_odds_144 4 rfl 146 rfl ?_
                refine z_goto F dX10_odds_146 150 (by decide) ?_
                refine z_ri F dX10_odds_150 ?_
                have hd1 : d ≤ 1 := le_nI (b := 1) h104 (by omega) (by decide)
                have ho : odN d t b = (t, b) := by rcases (show d = 0 ∨ d = 1 by omega) with rfl | rfl <;> rfl
                rw [ho, od_at _ (by omega) _ hth (by omega)] at he
                refine finM (m := σ) ?_ (MO.g hs)
                unfold aOdds
                rw [if_pos ⟨h5, h14⟩, if_neg hbn, nI_clamp i31, if_pos h141, ← (Prod.mk.inj he).1]
            · skip
              have hd1 : 1 < d := nle_nI (b := 1) h104 (by omega) (by decide)
              obtain ⟨e, rfl⟩ : ∃ e, d = e + 1 := ⟨d - 1, by omega⟩
              have r1 := rm_at (e + 1) hd t ht (by omega)
              have r2 := rm_at (e + 1) hd b hb (by omega)
              refine z_iload F dX10_odds_107 4 rfl 109 rfl ?_
              refine z_iload F dX10_odds_109 5 rfl 111 rfl ?_
              refine z_irem F dX10_odds_111 (nI_ne0 (by omega) (by omega)) 112 rfl ?_
              rw [r1.1]
              refine z_if_ne F dX10_odds_112 134 (by decide) 115 rfl (fun h112 => ?_) (fun h112 => ?_)
              · skip
                refine z_iinc F dX10_odds_134 5 rfl (-1) (by decide) [(0, _), (1, _), (2, _), (3, _), (4, _), (5, _)] rfl (by decide) 137 rfl ?_
                refine z_goto F dX10_odds_137 101 (by decide) ?_
                rw [pk_m1]
                refine ih e _ _ τ (by omega) (by omega) ?_ ?_ hs ?_
                · exact ht
                · exact hb
                · rw [← he]; exact (if_neg (c := 1 < e + 1 ∧ t % (e + 1) = 0 ∧ b % (e + 1) = 0) (fun z => h112 (by rw [z.2.1]; rfl))).symm
              · skip
                refine z_iload_n F dX10_odds_115 3 rfl 116 rfl ?_
                refine z_iload F dX10_odds_116 5 rfl 118 rfl ?_
                refine z_irem F dX10_odds_118 (nI_ne0 (by omega) (by omega)) 119 rfl ?_
                rw [r2.1]
                refine z_if_ne F dX10_odds_119 134 (by decide) 122 rfl (fun h119 => ?_) (fun h119 => ?_)
                · skip
                  refine z_iinc F dX10_odds_134 5 rfl (-1) (by decide) [(0, _), (1, _), (2, _), (3, _), (4, _), (5, _)] rfl (by decide) 137 rfl ?_
                  refine z_goto F dX10_odds_137 101 (by decide) ?_
                  rw [pk_m1]
                  refine ih e _ _ τ (by omega) (by omega) ?_ ?_ hs ?_
                  · exact ht
                  · exact hb
                  · rw [← he]; exact (if_neg (c := 1 < e + 1 ∧ t % (e + 1) = 0 ∧ b % (e + 1) = 0) (fun z => h119 (by rw [z.2.2]; rfl))).symm
                · skip
                  have z1 : t % (e + 1) = 0 := eq_nI (b := 0) h112 (by have := Nat.mod_le t (e + 1); omega) (by decide)
                  have z2 : b % (e + 1) = 0 := eq_nI (b := 0) h119 (by have := Nat.mod_le b (e + 1); omega) (by decide)
                  refine z_iload F dX10_odds_122 4 rfl 124 rfl ?_
                  refine z_iload F dX10_odds_124 5 rfl 126 rfl ?_
                  refine z_idiv F dX10_odds_126 (nI_ne0 (by omega) (by omega)) 127 rfl ?_
                  rw [r1.2]
                  refine z_istore F dX10_odds_127 [(0, _), (1, _), (2, _), (3, _), (4, _), (5, _)] rfl (by decide) 129 rfl ?_
                  refine z_iload_n F dX10_odds_129 3 rfl 130 rfl ?_
                  refine z_iload F dX10_odds_130 5 rfl 132 rfl ?_
                  refine z_idiv F dX10_odds_132 (nI_ne0 (by omega) (by omega)) 133 rfl ?_
                  rw [r2.2]
                  refine z_istore_n F dX10_odds_133 [(0, _), (1, _), (2, _), (3, _), (4, _), (5, _)] rfl (by decide) 134 rfl ?_
                  refine z_iinc F dX10_odds_134 5 rfl (-1) (by decide) [(0, _), (1, _), (2, _), (3, _), (4, _), (5, _)] rfl (by decide) 137 rfl ?_
                  refine z_goto F dX10_odds_137 101 (by decide) ?_
                  rw [pk_m1]
                  refine ih e _ _ τ (by omega) (by omega) ?_ ?_ hs ?_
                  · have := Nat.div_le_self t (e + 1); omega
                  · have := Nat.div_le_self b (e + 1); omega
                  · rw [← he]; exact (if_pos (c := 1 < e + 1 ∧ t % (e + 1) = 0 ∧ b % (e + 1) = 0) ⟨hd1, z1, z2⟩).symm
        have loop50 : ∀ (f : Nat) (o : Nat) (τ : z_M) (_ : 8 < o + f) (_ : o ≤ nP (σ 1)) (_ : MS [10, 11] σ τ), z_X l K E shM 6 6 (z_Pi (fun rv μ' => rv = (aOdds σ (nI i) w).1 ∧ MO (aOdds σ (nI i) w).2 μ')) 50 [(0, .ref (z_ad E 0)), (1, .int (nI i)), (2, .int w), (3, .int (nI (nP (σ 1) - 1))), (4, .int (nI (cntB (fun o => o != i && decide (veilS (σ 1) o i ≤ sightS (σ 1) i)) o))), (5, .int (nI o))] [] τ := by
          intro f
          induction f with
          | zero =>
            intro o τ hf ho hs
            omega
          | succ f ih =>
            intro o τ hf ho hs
            have e1 : τ 1 = σ 1 := hs 1 (by decide)
            refine z_iload F dX10_odds_50 5 rfl 52 rfl ?_
            refine z_aload_n F dX10_odds_52 0 rfl 53 rfl ?_
            refine z_getR F zc9 dX10_odds_53 rfl 0 (by decide) (by decide) (.inl m_930) rfl (by decide) 56 rfl ?_
            refine z_iconst F dX10_odds_56 2 (by decide) 57 rfl ?_
            refine z_iald F dX10_odds_57 rfl (show vp_in (nI 2) 385 from vp_in_nI (by decide) (by decide)) 58 rfl ?_
            rw [tn_2, e1, hn]
            refine z_icmp_ge F dX10_odds_58 98 (by decide) 61 rfl (fun h58 => ?_) (fun h58 => ?_)
            · skip
              refine z_iload_n F dX10_odds_98 3 rfl 99 rfl ?_
              refine z_istore F dX10_odds_99 [(0, _), (1, _), (2, _), (3, _), (4, _), (5, _)] rfl (by decide) 101 rfl ?_
              have hoe : o = nP (σ 1) := by have := le_nI h58 (by omega) (by omega); omega
              subst hoe
              exact loop101 9 _ _ _ τ (by omega) (by omega) hth (by omega) hs rfl
            · skip
              have ho2 : o < nP (σ 1) := nle_nI h58 (by omega) (by omega)
              refine z_iload F dX10_odds_61 4 rfl 63 rfl ?_
              refine z_iload F dX10_odds_63 5 rfl 65 rfl ?_
              refine z_iload_n F dX10_odds_65 1 rfl 66 rfl ?_
              refine z_icmp_eq F dX10_odds_66 88 (by decide) 69 rfl (fun h66 => ?_) (fun h66 => ?_)
              · skip
                refine z_iconst F dX10_odds_88 0 (by decide) 89 rfl ?_
                refine z_iadd F dX10_odds_89 90 rfl ?_
                rw [Int32.add_zero]
                refine z_istore F dX10_odds_90 [(0, _), (1, _), (2, _), (3, _), (4, _), (5, _)] rfl (by decide) 92 rfl ?_
                refine z_iinc F dX10_odds_92 5 rfl 1 (by decide) [(0, _), (1, _), (2, _), (3, _), (4, _), (5, _)] rfl (by decide) 95 rfl ?_
                refine z_goto F dX10_odds_95 50 (by decide) ?_
                have L := ih (o + 1) τ (by omega) (by omega) hs
                rw [cntB_f (by rw [show o = i from eq_nI h66 (by omega) (by omega)]; simp)] at L
                rw [nI_1 o]
                exact L
              · skip
                refine z_aload_n F dX10_odds_69 0 rfl 70 rfl ?_
                refine z_iload F dX10_odds_70 5 rfl 72 rfl ?_
                refine z_iload_n F dX10_odds_72 1 rfl 73 rfl ?_
                refine z_callVi F dX10_odds_73 m_1104 iX10_veils jX10_veils rfl zc9 rfl (kX10_veils τ (by rw [e1]; exact hN) (by rw [e1]; exact hR.2.1.2.1) (i := o) (j := i) (by rw [e1]; exact ho2) (by rw [e1]; exact hi)) rfl (by decide) (Nat.le_of_ble_eq_true rfl) 76 rfl (fun r73 s73 c73 => ?_)
                obtain ⟨rfl, m73⟩ := c73
                rw [e1]
                refine z_aload_n F dX10_odds_76 0 rfl 77 rfl ?_
                refine z_iload_n F dX10_odds_77 1 rfl 78 rfl ?_
                refine z_callVi F dX10_odds_78 m_1024 iX10_sight jX10_sight rfl zc9 rfl (kX10_sight s73 (by rw [m73 1 (by decide), e1]; exact hN) (by rw [m73 1 (by decide), e1]; exact hR.2.1.2.2.1) (i := i) (by rw [m73 1 (by decide), e1]; exact hi)) rfl (by decide) (Nat.le_of_ble_eq_true rfl) 81 rfl (fun r78 s78 c78 => ?_)
                obtain ⟨rfl, m78⟩ := c78
                rw [show s73 1 = σ 1 from (m73 1 (by decide)).trans e1]
                refine z_icmp_gt F dX10_odds_81 88 (by decide) 84 rfl (fun h81 => ?_) (fun h81 => ?_)
                · skip
                  refine z_iconst F dX10_odds_88 0 (by decide) 89 rfl ?_
                  refine z_iadd F dX10_odds_89 90 rfl ?_
                  rw [Int32.add_zero]
                  refine z_istore F dX10_odds_90 [(0, _), (1, _), (2, _), (3, _), (4, _), (5, _)] rfl (by decide) 92 rfl ?_
                  refine z_iinc F dX10_odds_92 5 rfl 1 (by decide) [(0, _), (1, _), (2, _), (3, _), (4, _), (5, _)] rfl (by decide) 95 rfl ?_
                  refine z_goto F dX10_odds_95 50 (by decide) ?_
                  have L := ih (o + 1) s78 (by omega) (by omega) ((hs.tr m73).tr m78)
                  rw [cntB_f (by rw [decide_eq_false (p := veilS (σ 1) o i ≤ sightS (σ 1) i) (fun z => i_nlt.mpr z h81)]; simp)] at L
                  rw [nI_1 o]
                  exact L
                · skip
                  refine z_iconst F dX10_odds_84 1 (by decide) 85 rfl ?_
                  refine z_goto F dX10_odds_85 89 (by decide) ?_
                  refine z_iadd F dX10_odds_89 90 rfl ?_
                  rw [nI_1]
                  refine z_istore F dX10_odds_90 [(0, _), (1, _), (2, _), (3, _), (4, _), (5, _)] rfl (by decide) 92 rfl ?_
                  refine z_iinc F dX10_odds_92 5 rfl 1 (by decide) [(0, _), (1, _), (2, _), (3, _), (4, _), (5, _)] rfl (by decide) 95 rfl ?_
                  refine z_goto F dX10_odds_95 50 (by decide) ?_
                  have L := ih (o + 1) s78 (by omega) (by omega) ((hs.tr m73).tr m78)
                  rw [cntB_t (by rw [decide_eq_true (i_nlt.mp h81)]; simp; exact fun z => h66 (by rw [z]))] at L
                  rw [nI_1 o]
                  exact L
        refine z_iconst F dX10_odds_44 0 (by decide) 45 rfl ?_
        refine z_istore F dX10_odds_45 [(0, _), (1, _), (2, _), (3, _), (4, _)] rfl (by decide) 47 rfl ?_
        refine z_iconst F dX10_odds_47 0 (by decide) 48 rfl ?_
        refine z_istore F dX10_odds_48 [(0, _), (1, _), (2, _), (3, _), (4, _), (5, _)] rfl (by decide) 50 rfl ?_
        exact loop50 9 0 σ (by omega) (by omega) MS.rf
      · skip
        refine z_aload_n F dX10_odds_37 0 rfl 38 rfl ?_
        refine z_ldc F dX10_odds_38 m_1082 40 rfl ?_
        rw [lo3]
        refine z_callVi F dX10_odds_40 m_1002 iX10_error jX10_error rfl zc9 rfl (kX10_error σ (k := 3) (by decide) (by decide)) rfl (by decide) (Nat.le_of_ble_eq_true rfl) 43 rfl (fun r40 s40 c40 => ?_)
        refine z_ri F dX10_odds_43 ?_
        obtain ⟨rfl, rfl⟩ := c40
        exact finM (by
          unfold aOdds
          rw [if_pos ⟨h5, h14⟩, if_pos]
          rw [hn, show nI (nP (σ 1)) - 1 = nI (nP (σ 1) - 1) from pk_sub (b := 1) (by omega), h34]; decide) MO.rf
    · skip
      have h14 := bI0.mp h14
      refine z_aload_n F dX10_odds_17 0 rfl 18 rfl ?_
      refine z_ldc F dX10_odds_18 m_1001 20 rfl ?_
      rw [lo1]
      refine z_callVi F dX10_odds_20 m_1002 iX10_error jX10_error rfl zc9 rfl (kX10_error σ (k := 1) (by decide) (by decide)) rfl (by decide) (Nat.le_of_ble_eq_true rfl) 23 rfl (fun r20 s20 c20 => ?_)
      refine z_ri F dX10_odds_23 ?_
      obtain ⟨rfl, rfl⟩ := c20
      exact finM (by
        unfold aOdds
        (repeat' split) <;> first | rfl | contradiction | (exfalso; simp only [Int32.lt_iff_toInt_lt, Int32.le_iff_toInt_le, ← Int32.toInt_inj, Int32.reduceToInt] at *; omega)) MO.rf
