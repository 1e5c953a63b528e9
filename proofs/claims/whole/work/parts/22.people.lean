/-! what the calls do, as functions of the reference's memory -/
def aPerson (μ : z_M) (km par : Int32) : Op := if (0 ≤ km ∧ km ≤ 69) ∧ -1 ≤ par ∧ par < μ 1 2 then (if μ 1 2 < 8 then (μ 1 2, z_up μ 1 (addR (μ 1) (km / 10) (km - km / 10 * 10) par)) else er μ 4) else er μ 1
def aPersonIs (μ : z_M) (x w : Int32) : Op := if (0 ≤ x ∧ x < μ 1 2) then (if 0 ≤ w ∧ w ≤ 4 then (pO (μ 1) x.toNatClampNeg w.toNatClampNeg, μ) else if w = 5 then (sightS (μ 1) x.toNatClampNeg, μ) else er μ 1) else er μ 1
def aBecome (μ : z_M) (x km : Int32) : Op := if (0 ≤ x ∧ x < μ 1 2) ∧ 0 ≤ km ∧ km ≤ 69 then (pO (μ 1) x.toNatClampNeg 0, z_up μ 1 (pU (pU (μ 1) x.toNatClampNeg 1 (km - km / 10 * 10)) x.toNatClampNeg 0 (km / 10))) else er μ 1
def aAs (μ : z_M) (x k : Int32) : Op := if (0 ≤ x ∧ x < μ 1 2) ∧ 0 ≤ k ∧ k < 7 then (if underF 7 (pO (μ 1) x.toNatClampNeg 0) k = true then (pO (μ 1) x.toNatClampNeg 1, μ) else er μ 5) else er μ 1
def aDescends (μ : z_M) (x par : Int32) : Op := if (0 ≤ x ∧ x < μ 1 2) ∧ -1 ≤ par ∧ par < x then (pO (μ 1) x.toNatClampNeg 2, z_up μ 1 (pU (μ 1) x.toNatClampNeg 2 par)) else er μ 1
def aMarries (μ : z_M) (x y : Int32) : Op := if (0 ≤ x ∧ x < μ 1 2) ∧ (0 ≤ y ∧ y < μ 1 2) ∧ ¬ x = y then (if pO (μ 1) x.toNatClampNeg 3 < 0 ∧ pO (μ 1) y.toNatClampNeg 3 < 0 then (nI (nearN (wedR (μ 1) x.toNatClampNeg y.toNatClampNeg) x.toNatClampNeg), z_up μ 1 (wedR (μ 1) x.toNatClampNeg y.toNatClampNeg)) else er μ 3) else er μ 1
def aParts (μ : z_M) (x : Int32) : Op := if (0 ≤ x ∧ x < μ 1 2) then (if pO (μ 1) x.toNatClampNeg 3 < 0 then er μ 2 else (pO (μ 1) x.toNatClampNeg 3, z_up μ 1 (parR (μ 1) x.toNatClampNeg (pO (μ 1) x.toNatClampNeg 3).toNatClampNeg))) else er μ 1
def aSteps (μ : z_M) (x y : Int32) : Op := if (0 ≤ x ∧ x < μ 1 2) ∧ (0 ≤ y ∧ y < μ 1 2) then (nI (dS (μ 1) x.toNatClampNeg y.toNatClampNeg), μ) else er μ 1
def aLets (μ : z_M) (x y : Int32) : Op := if (0 ≤ x ∧ x < μ 1 2) ∧ (0 ≤ y ∧ y < μ 1 2) then (veilS (μ 1) x.toNatClampNeg y.toNatClampNeg, μ) else er μ 1
def aMeets (μ : z_M) (pl x y : Int32) : Op := if (0 ≤ pl ∧ pl < 6) ∧ (0 ≤ x ∧ x < 8) ∧ 0 ≤ y ∧ y < 8 then (μ 1 (7 + 2 * pl.toNatClampNeg) * 10 + μ 1 (8 + 2 * pl.toNatClampNeg), z_up μ 1 (upd (upd (μ 1) (7 + 2 * pl.toNatClampNeg) x) (8 + 2 * pl.toNatClampNeg) y)) else er μ 1
def aTrade (μ : z_M) (w v : Int32) : Op := if w = 0 ∧ 0 ≤ v ∧ v ≤ 999 then (μ 1 3, z_up μ 1 (upd (μ 1) 3 v)) else if w = 1 ∧ 0 ≤ v ∧ v ≤ 40 then (μ 1 4, z_up μ 1 (upd (μ 1) 4 v)) else er μ 1
def aYear (μ : z_M) (v : Int32) : Op := if 0 ≤ v ∧ v ≤ 9999 then (μ 1 0, z_up μ 1 (upd (μ 1) 0 v)) else er μ 1
def aSeed (μ : z_M) (v : Int32) : Op := (μ 1 1, z_up μ 1 (upd (μ 1) 1 v))
def aUntell (μ : z_M) (u : Int32) : Op := if 0 ≤ u ∧ u < 2 then (if 0 < μ 1 (143 + 121 * u.toNatClampNeg) then 1 else 0, z_up μ 1 (upd (μ 1) (143 + 121 * u.toNatClampNeg) 0)) else er μ 1
def aLaw (μ : z_M) (u x y z : Int32) : Op := if 0 ≤ u ∧ u < 2 then (givS (μ 1) u.toNatClampNeg x y z, μ) else er μ 1
theorem tn_0 : (0 : Int32).toNatClampNeg = 0 := by decide
theorem tn_1 : (1 : Int32).toNatClampNeg = 1 := by decide
theorem tn_2 : (2 : Int32).toNatClampNeg = 2 := by decide
theorem tn_3 : (3 : Int32).toNatClampNeg = 3 := by decide
theorem tn_4 : (4 : Int32).toNatClampNeg = 4 := by decide
theorem km_at : ∀ q, q < 70 → nI q / 10 = nI (q / 10) ∧ nI q - nI q / 10 * 10 = nI (q % 10) := by decide +kernel
theorem km_a2 (q : Nat) (h : q < 70) : nI q - nI (q / 10) * 10 = nI (q % 10) := by have h1 := (km_at q h).2; rw [(km_at q h).1] at h1; exact h1
theorem par_of {x : Int32} {n : Nat} (h : -1 ≤ x) (h2 : x < nI n) (hn : n < 2 ^ 31) : x = -1 ∨ ∃ j, j < n ∧ x = nI j := by
  by_cases q : x = -1
  · exact Or.inl q
  · exact Or.inr (isP_of ⟨by simp only [Int32.lt_iff_toInt_lt, Int32.le_iff_toInt_le, ← Int32.toInt_inj, Int32.reduceToInt] at *; omega, h2⟩ hn)
theorem add_lo {r : Rw} {k m par : Int32} {j : Nat} (h : j < 19) (h2 : j ≠ 2) : addR r k m par j = r j := by
  unfold addR; rw [pU_lo h, pU_lo h, pU_lo h, pU_lo h, pU_lo h, upd_at, if_neg h2]
theorem add_hi {r : Rw} {k m par : Int32} {j : Nat} (h8 : nP r < 8) (h : 59 ≤ j) : addR r k m par j = r j := by
  unfold addR; rw [pU_19 h8 (by decide) (Or.inr h), pU_19 h8 (by decide) (Or.inr h), pU_19 h8 (by decide) (Or.inr h), pU_19 h8 (by decide) (Or.inr h), pU_19 h8 (by decide) (Or.inr h), upd_at, if_neg (by omega)]
set_option maxHeartbeats 400000 in
set_option maxRecDepth 10000 in
theorem kX9_person {l : Launch} {E : z_E} (σ : z_M) {μ : z_M} (hR : Rel σ μ) (km : Int32) (par : Int32)  : z_C l E shC 4 yX9_person cX9_person 3 (some FieldType.int) [.ref (z_ad E 0), .int km, .int par] σ (z_Pi (fun rv σ' => rv = (aPerson μ km par).1 ∧ Rel σ' (aPerson μ km par).2)) := by
  refine z_intro iX9_person (Nat.le_of_ble_eq_true rfl) (fun K F => ?_)
  have hc : σ 2 0 = μ 1 2 := hR.1.1.1
  have hn : μ 1 2 = nI (nP (μ 1)) := hR.2.1.1.1
  have h8 : nP (μ 1) ≤ 8 := hR.n8
  refine z_iload_n F dX9_person_0 1 rfl 1 rfl ?_
  refine z_callSp F dX9_person_1 m_331 iX9_isKm m_332 rfl (kX9_isKm σ km) rfl (by decide) (Nat.le_of_ble_eq_true rfl) 4 rfl ?_
  refine z_if_eq F dX9_person_4 26 (by decide) 7 rfl (fun h4 => ?_) (fun h4 => ?_)
  · skip
    have h4 := bI0.mp h4
    refine z_aload_n F dX9_person_26 0 rfl 27 rfl ?_
    refine z_iconst F dX9_person_27 1 (by decide) 28 rfl ?_
    refine z_callVi F dX9_person_28 m_334 iX9_fail jX9_fail rfl zc8 rfl (kX9_fail σ (k := 1) (by decide) (by decide)) rfl (by decide) (Nat.le_of_ble_eq_true rfl) 31 rfl (fun r28 s28 c28 => ?_)
    refine z_ri F dX9_person_31 ?_
    obtain ⟨rfl, rfl⟩ := c28
    exact fin (by
      unfold aPerson
      (repeat' split) <;> first | rfl | contradiction | (exfalso; simp only [Int32.lt_iff_toInt_lt, Int32.le_iff_toInt_le, ← Int32.toInt_inj, Int32.reduceToInt] at *; omega)) (hR.fail (by decide) (by decide))
  · skip
    have h4 := bI1.mp h4
    refine z_iload_n F dX9_person_7 2 rfl 8 rfl ?_
    refine z_iconst F dX9_person_8 (-1) (by decide) 9 rfl ?_
    refine z_icmp_lt F dX9_person_9 26 (by decide) 12 rfl (fun h9 => ?_) (fun h9 => ?_)
    · skip
      refine z_aload_n F dX9_person_26 0 rfl 27 rfl ?_
      refine z_iconst F dX9_person_27 1 (by decide) 28 rfl ?_
      refine z_callVi F dX9_person_28 m_334 iX9_fail jX9_fail rfl zc8 rfl (kX9_fail σ (k := 1) (by decide) (by decide)) rfl (by decide) (Nat.le_of_ble_eq_true rfl) 31 rfl (fun r28 s28 c28 => ?_)
      refine z_ri F dX9_person_31 ?_
      obtain ⟨rfl, rfl⟩ := c28
      exact fin (by
        unfold aPerson
        (repeat' split) <;> first | rfl | contradiction | (exfalso; simp only [Int32.lt_iff_toInt_lt, Int32.le_iff_toInt_le, ← Int32.toInt_inj, Int32.reduceToInt] at *; omega)) (hR.fail (by decide) (by decide))
    · skip
      refine z_iload_n F dX9_person_12 2 rfl 13 rfl ?_
      refine z_aload_n F dX9_person_13 0 rfl 14 rfl ?_
      refine z_getR F zc8 dX9_person_14 rfl 0 (by decide) (by decide) (.inl m_302) rfl (by decide) 17 rfl ?_
      refine z_getR F zc7 dX9_person_17 rfl 0 (by decide) (by decide) (.inr ⟨_, m_200⟩) rfl (by decide) 20 rfl ?_
      refine z_getI F zc1 dX9_person_20 rfl 0 (by decide) (by decide) (.inr ⟨_, m_110⟩) rfl 23 rfl ?_
      refine z_icmp_lt F dX9_person_23 32 (by decide) 26 rfl (fun h23 => ?_) (fun h23 => ?_)
      · skip
        refine z_aload_n F dX9_person_32 0 rfl 33 rfl ?_
        refine z_getR F zc8 dX9_person_33 rfl 0 (by decide) (by decide) (.inl m_302) rfl (by decide) 36 rfl ?_
        refine z_getR F zc7 dX9_person_36 rfl 0 (by decide) (by decide) (.inr ⟨_, m_200⟩) rfl (by decide) 39 rfl ?_
        refine z_getI F zc1 dX9_person_39 rfl 0 (by decide) (by decide) (.inr ⟨_, m_110⟩) rfl 42 rfl ?_
        refine z_bipush F dX9_person_42 8 (by decide) 44 rfl ?_
        refine z_icmp_lt F dX9_person_44 53 (by decide) 47 rfl (fun h44 => ?_) (fun h44 => ?_)
        · skip
          have h9' : -1 ≤ par := by simp only [Int32.lt_iff_toInt_lt, Int32.le_iff_toInt_le, ← Int32.toInt_inj, Int32.reduceToInt] at *; omega
          have h23' : par < μ 1 2 := hc ▸ h23
          have h44' : μ 1 2 < 8 := by rw [← hc]; exact h44
          obtain ⟨q, hq, rfl⟩ : ∃ q, q < 70 ∧ km = nI q := isP_of (n := 70) ⟨h4.1, by show km < 70; simp only [Int32.lt_iff_toInt_lt, Int32.le_iff_toInt_le, ← Int32.toInt_inj, Int32.reduceToInt] at *; omega⟩ (by decide)
          have hpp := par_of h9' (hn ▸ h23') (by omega)
          have hn8 : nP (μ 1) < 8 := nI_ltI (by omega) (by decide) |>.mp (show nI (nP (μ 1)) < nI 8 by rw [← hn]; exact h44')
          refine z_aload_n F dX9_person_53 0 rfl 54 rfl ?_
          refine z_getR F zc8 dX9_person_54 rfl 0 (by decide) (by decide) (.inl m_302) rfl (by decide) 57 rfl ?_
          refine z_getR F zc7 dX9_person_57 rfl 0 (by decide) (by decide) (.inr ⟨_, m_200⟩) rfl (by decide) 60 rfl ?_
          refine z_iload_n F dX9_person_60 1 rfl 61 rfl ?_
          refine z_bipush F dX9_person_61 10 (by decide) 63 rfl ?_
          refine z_idiv F dX9_person_63 (by decide) 64 rfl ?_
          refine z_iload_n F dX9_person_64 1 rfl 65 rfl ?_
          refine z_bipush F dX9_person_65 10 (by decide) 67 rfl ?_
          refine z_irem F dX9_person_67 (by decide) 68 rfl ?_
          refine z_iload_n F dX9_person_68 2 rfl 69 rfl ?_
          rw [(km_at q (by omega)).2, (km_at q (by omega)).1]
          refine z_callVi F dX9_person_69 m_339 iX1_add jX1_add rfl zc1 rfl (kX1_add σ (r := μ 1) hR.1.1 hR.vk hn8 (k := q / 10) (m := q % 10) (par := par) (by omega) (by omega) hpp) rfl (by decide) (Nat.le_of_ble_eq_true rfl) 72 rfl (fun r69 s69 c69 => ?_)
          refine z_ri F dX9_person_72 ?_
          obtain ⟨rfl, c2, c3, c4⟩ := c69
          refine fin (m := z_up μ 1 (addR (μ 1) (nI q / 10) (nI q - nI q / 10 * 10) par)) ?_ (by rw [(km_at q (by omega)).2, (km_at q (by omega)).1]; exact hR.kin c2 c3 c4 (hR.vk.add hn8 (by omega) (by omega) hpp) (fun k a b => add_lo a b) (fun k a => add_hi hn8 a) (by rw [nP_add hR.vk]; omega) (fun j hj => by rw [nP_add hR.vk] at hj; rw [pO_add (by decide)]; by_cases z : j = nP (μ 1); (subst z; simp); (have z2 : j < nP (μ 1) := by omega); simp [z, z2]))
          rw [← hn]
          unfold aPerson
          rw [if_pos ⟨h4, h9', h23'⟩, if_pos h44']
        · skip
          refine z_aload_n F dX9_person_47 0 rfl 48 rfl ?_
          refine z_iconst F dX9_person_48 4 (by decide) 49 rfl ?_
          refine z_callVi F dX9_person_49 m_334 iX9_fail jX9_fail rfl zc8 rfl (kX9_fail σ (k := 4) (by decide) (by decide)) rfl (by decide) (Nat.le_of_ble_eq_true rfl) 52 rfl (fun r49 s49 c49 => ?_)
          refine z_ri F dX9_person_52 ?_
          obtain ⟨rfl, rfl⟩ := c49
          exact fin (by
            unfold aPerson
            (repeat' split) <;> first | rfl | contradiction | (exfalso; simp only [Int32.lt_iff_toInt_lt, Int32.le_iff_toInt_le, ← Int32.toInt_inj, Int32.reduceToInt] at *; omega)) (hR.fail (by decide) (by decide))
      · skip
        refine z_aload_n F dX9_person_26 0 rfl 27 rfl ?_
        refine z_iconst F dX9_person_27 1 (by decide) 28 rfl ?_
        refine z_callVi F dX9_person_28 m_334 iX9_fail jX9_fail rfl zc8 rfl (kX9_fail σ (k := 1) (by decide) (by decide)) rfl (by decide) (Nat.le_of_ble_eq_true rfl) 31 rfl (fun r28 s28 c28 => ?_)
        refine z_ri F dX9_person_31 ?_
        obtain ⟨rfl, rfl⟩ := c28
        exact fin (by
          unfold aPerson
          (repeat' split) <;> first | rfl | contradiction | (exfalso; simp only [Int32.lt_iff_toInt_lt, Int32.le_iff_toInt_le, ← Int32.toInt_inj, Int32.reduceToInt] at *; omega)) (hR.fail (by decide) (by decide))
set_option maxHeartbeats 400000 in
set_option maxRecDepth 10000 in
theorem kX9_personIs {l : Launch} {E : z_E} (σ : z_M) {μ : z_M} (hR : Rel σ μ) (x : Int32) (w : Int32)  : z_C l E shC 4 yX9_personIs cX9_personIs 3 (some FieldType.int) [.ref (z_ad E 0), .int x, .int w] σ (z_Pi (fun rv σ' => rv = (aPersonIs μ x w).1 ∧ Rel σ' (aPersonIs μ x w).2)) := by
  refine z_intro iX9_personIs (Nat.le_of_ble_eq_true rfl) (fun K F => ?_)
  have hc : σ 2 0 = μ 1 2 := hR.1.1.1
  have hn : μ 1 2 = nI (nP (μ 1)) := hR.2.1.1.1
  have h8 : nP (μ 1) ≤ 8 := hR.n8
  refine z_aload_n F dX9_personIs_0 0 rfl 1 rfl ?_
  refine z_getR F zc8 dX9_personIs_1 rfl 0 (by decide) (by decide) (.inl m_302) rfl (by decide) 4 rfl ?_
  refine z_getR F zc7 dX9_personIs_4 rfl 0 (by decide) (by decide) (.inr ⟨_, m_200⟩) rfl (by decide) 7 rfl ?_
  refine z_iload_n F dX9_personIs_7 1 rfl 8 rfl ?_
  refine z_callVp F dX9_personIs_8 m_370 iX1_has jX1_has rfl zc1 rfl (kX1_has σ _) rfl (by decide) (Nat.le_of_ble_eq_true rfl) 11 rfl ?_
  refine z_if_ne F dX9_personIs_11 20 (by decide) 14 rfl (fun h11 => ?_) (fun h11 => ?_)
  · skip
    have h11 := bI1.mp h11
    obtain ⟨i, hi, rfl⟩ := isP_of (n := nP (μ 1)) (hn ▸ hc ▸ h11) (by omega)
    have i31 : i < 2 ^ 31 := by omega
    refine z_iload_n F dX9_personIs_20 2 rfl 21 rfl ?_
    by_cases e21_0 : w = 0
    · skip
      refine z_tableIn F dX9_personIs_21 (by rw [e21_0]; decide) (by rw [e21_0]; decide) (by rw [e21_0]; rfl) 60 (by decide) ?_
      refine z_aload_n F dX9_personIs_60 0 rfl 61 rfl ?_
      refine z_getR F zc8 dX9_personIs_61 rfl 0 (by decide) (by decide) (.inl m_302) rfl (by decide) 64 rfl ?_
      refine z_getR F zc7 dX9_personIs_64 rfl 0 (by decide) (by decide) (.inr ⟨_, m_200⟩) rfl (by decide) 67 rfl ?_
      refine z_getR F zc1 dX9_personIs_67 rfl 1 (by decide) (by decide) (.inr ⟨_, m_114⟩) rfl (by decide) 70 rfl ?_
      refine z_iload_n F dX9_personIs_70 1 rfl 71 rfl ?_
      refine z_iald F dX9_personIs_71 rfl (vp_in_nI (by omega) (by decide)) 72 rfl ?_
      rw [nI_clamp i31]
      refine z_ri F dX9_personIs_72 ?_
      have e : σ 3 i = pO (μ 1) i 0 := ((kin1.mp hR.1.1).2 i hi).1
      rw [e]
      exact fin (by
        unfold aPersonIs
        simp only [nI_clamp i31, e21_0, tn_0]
        (repeat' split) <;> first | rfl | contradiction | (exfalso; simp only [Int32.lt_iff_toInt_lt, Int32.le_iff_toInt_le, ← Int32.toInt_inj, Int32.reduceToInt] at *; omega)) hR
    by_cases e21_1 : w = 1
    · skip
      refine z_tableIn F dX9_personIs_21 (by rw [e21_1]; decide) (by rw [e21_1]; decide) (by rw [e21_1]; rfl) 73 (by decide) ?_
      refine z_aload_n F dX9_personIs_73 0 rfl 74 rfl ?_
      refine z_getR F zc8 dX9_personIs_74 rfl 0 (by decide) (by decide) (.inl m_302) rfl (by decide) 77 rfl ?_
      refine z_getR F zc7 dX9_personIs_77 rfl 0 (by decide) (by decide) (.inr ⟨_, m_200⟩) rfl (by decide) 80 rfl ?_
      refine z_getR F zc1 dX9_personIs_80 rfl 2 (by decide) (by decide) (.inr ⟨_, m_117⟩) rfl (by decide) 83 rfl ?_
      refine z_iload_n F dX9_personIs_83 1 rfl 84 rfl ?_
      refine z_iald F dX9_personIs_84 rfl (vp_in_nI (by omega) (by decide)) 85 rfl ?_
      rw [nI_clamp i31]
      refine z_ri F dX9_personIs_85 ?_
      have e : σ 4 i = pO (μ 1) i 1 := ((kin1.mp hR.1.1).2 i hi).2.1
      rw [e]
      exact fin (by
        unfold aPersonIs
        simp only [nI_clamp i31, e21_1, tn_1]
        (repeat' split) <;> first | rfl | contradiction | (exfalso; simp only [Int32.lt_iff_toInt_lt, Int32.le_iff_toInt_le, ← Int32.toInt_inj, Int32.reduceToInt] at *; omega)) hR
    by_cases e21_2 : w = 2
    · skip
      refine z_tableIn F dX9_personIs_21 (by rw [e21_2]; decide) (by rw [e21_2]; decide) (by rw [e21_2]; rfl) 86 (by decide) ?_
      refine z_aload_n F dX9_personIs_86 0 rfl 87 rfl ?_
      refine z_getR F zc8 dX9_personIs_87 rfl 0 (by decide) (by decide) (.inl m_302) rfl (by decide) 90 rfl ?_
      refine z_getR F zc7 dX9_personIs_90 rfl 0 (by decide) (by decide) (.inr ⟨_, m_200⟩) rfl (by decide) 93 rfl ?_
      refine z_getR F zc1 dX9_personIs_93 rfl 3 (by decide) (by decide) (.inr ⟨_, m_119⟩) rfl (by decide) 96 rfl ?_
      refine z_iload_n F dX9_personIs_96 1 rfl 97 rfl ?_
      refine z_iald F dX9_personIs_97 rfl (vp_in_nI (by omega) (by decide)) 98 rfl ?_
      rw [nI_clamp i31]
      refine z_ri F dX9_personIs_98 ?_
      have e : σ 5 i = pO (μ 1) i 2 := ((kin1.mp hR.1.1).2 i hi).2.2.1
      rw [e]
      exact fin (by
        unfold aPersonIs
        simp only [nI_clamp i31, e21_2, tn_2]
        (repeat' split) <;> first | rfl | contradiction | (exfalso; simp only [Int32.lt_iff_toInt_lt, Int32.le_iff_toInt_le, ← Int32.toInt_inj, Int32.reduceToInt] at *; omega)) hR
    by_cases e21_3 : w = 3
    · skip
      refine z_tableIn F dX9_personIs_21 (by rw [e21_3]; decide) (by rw [e21_3]; decide) (by rw [e21_3]; rfl) 99 (by decide) ?_
      refine z_aload_n F dX9_personIs_99 0 rfl 100 rfl ?_
      refine z_getR F zc8 dX9_personIs_100 rfl 0 (by decide) (by decide) (.inl m_302) rfl (by decide) 103 rfl ?_
      refine z_getR F zc7 dX9_personIs_103 rfl 0 (by decide) (by decide) (.inr ⟨_, m_200⟩) rfl (by decide) 106 rfl ?_
      refine z_getR F zc1 dX9_personIs_106 rfl 4 (by decide) (by decide) (.inr ⟨_, m_122⟩) rfl (by decide) 109 rfl ?_
      refine z_iload_n F dX9_personIs_109 1 rfl 110 rfl ?_
      refine z_iald F dX9_personIs_110 rfl (vp_in_nI (by omega) (by decide)) 111 rfl ?_
      rw [nI_clamp i31]
      refine z_ri F dX9_personIs_111 ?_
      have e : σ 6 i = pO (μ 1) i 3 := ((kin1.mp hR.1.1).2 i hi).2.2.2
      rw [e]
      exact fin (by
        unfold aPersonIs
        simp only [nI_clamp i31, e21_3, tn_3]
        (repeat' split) <;> first | rfl | contradiction | (exfalso; simp only [Int32.lt_iff_toInt_lt, Int32.le_iff_toInt_le, ← Int32.toInt_inj, Int32.reduceToInt] at *; omega)) hR
    by_cases e21_4 : w = 4
    · skip
      refine z_tableIn F dX9_personIs_21 (by rw [e21_4]; decide) (by rw [e21_4]; decide) (by rw [e21_4]; rfl) 112 (by decide) ?_
      refine z_aload_n F dX9_personIs_112 0 rfl 113 rfl ?_
      refine z_getR F zc8 dX9_personIs_113 rfl 0 (by decide) (by decide) (.inl m_302) rfl (by decide) 116 rfl ?_
      refine z_getR F zc7 dX9_personIs_116 rfl 1 (by decide) (by decide) (.inr ⟨_, m_202⟩) rfl (by decide) 119 rfl ?_
      refine z_getR F zc0 dX9_personIs_119 rfl 3 (by decide) (by decide) (.inr ⟨_, m_154⟩) rfl (by decide) 122 rfl ?_
      refine z_iload_n F dX9_personIs_122 1 rfl 123 rfl ?_
      refine z_iald F dX9_personIs_123 rfl (vp_in_nI (by omega) (by decide)) 124 rfl ?_
      rw [nI_clamp i31]
      refine z_ri F dX9_personIs_124 ?_
      have e : σ 9 i = pO (μ 1) i 4 := (hR.crs.2.2.2 i (by omega)).trans (if_pos hi)
      rw [e]
      exact fin (by
        unfold aPersonIs
        simp only [nI_clamp i31, e21_4, tn_4]
        (repeat' split) <;> first | rfl | contradiction | (exfalso; simp only [Int32.lt_iff_toInt_lt, Int32.le_iff_toInt_le, ← Int32.toInt_inj, Int32.reduceToInt] at *; omega)) hR
    by_cases e21_5 : w = 5
    · skip
      refine z_tableIn F dX9_personIs_21 (by rw [e21_5]; decide) (by rw [e21_5]; decide) (by rw [e21_5]; rfl) 125 (by decide) ?_
      refine z_aload_n F dX9_personIs_125 0 rfl 126 rfl ?_
      refine z_getR F zc8 dX9_personIs_126 rfl 0 (by decide) (by decide) (.inl m_302) rfl (by decide) 129 rfl ?_
      refine z_iload_n F dX9_personIs_129 1 rfl 130 rfl ?_
      refine z_aload_n F dX9_personIs_130 0 rfl 131 rfl ?_
      refine z_getR F zc8 dX9_personIs_131 rfl 0 (by decide) (by decide) (.inl m_302) rfl (by decide) 134 rfl ?_
      refine z_getR F zc7 dX9_personIs_134 rfl 1 (by decide) (by decide) (.inr ⟨_, m_202⟩) rfl (by decide) 137 rfl ?_
      refine z_callVi F dX9_personIs_137 m_371 iX8_sightOf jX8_sightOf rfl zc7 rfl (kX8_sightOfN σ (r := μ 1) hR.now hR.crs.1 hR.crs.2.1 hi) rfl (by decide) (Nat.le_of_ble_eq_true rfl) 140 rfl (fun r137 s137 c137 => ?_)
      refine z_ri F dX9_personIs_140 ?_
      obtain ⟨rfl, m137⟩ := c137
      exact fin (by
        unfold aPersonIs
        simp only [nI_clamp i31, e21_5]
        (repeat' split) <;> first | rfl | contradiction | (exfalso; simp only [Int32.lt_iff_toInt_lt, Int32.le_iff_toInt_le, ← Int32.toInt_inj, Int32.reduceToInt] at *; omega)) (hR.gar m137 (by decide) (by decide))
    refine z_tableOut F dX9_personIs_21 (by have t0 := w.toInt; have t1 := lv_neT e21_0 (a := 0) rfl; have t2 := lv_neT e21_1 (a := 1) rfl; have t3 := lv_neT e21_2 (a := 2) rfl; have t4 := lv_neT e21_3 (a := 3) rfl; have t5 := lv_neT e21_4 (a := 4) rfl; have t6 := lv_neT e21_5 (a := 5) rfl; omega) 141 (by decide) ?_
    refine z_aload_n F dX9_personIs_141 0 rfl 142 rfl ?_
    refine z_iconst F dX9_personIs_142 1 (by decide) 143 rfl ?_
    refine z_callVi F dX9_personIs_143 m_334 iX9_fail jX9_fail rfl zc8 rfl (kX9_fail σ (k := 1) (by decide) (by decide)) rfl (by decide) (Nat.le_of_ble_eq_true rfl) 146 rfl (fun r143 s143 c143 => ?_)
    refine z_ri F dX9_personIs_146 ?_
    obtain ⟨rfl, rfl⟩ := c143
    exact fin (by
      unfold aPersonIs
      (repeat' split) <;> first | rfl | contradiction | (exfalso; simp only [Int32.lt_iff_toInt_lt, Int32.le_iff_toInt_le, ← Int32.toInt_inj, Int32.reduceToInt] at *; omega)) (hR.fail (by decide) (by decide))
  · skip
    have h11 := bI0.mp h11
    refine z_aload_n F dX9_personIs_14 0 rfl 15 rfl ?_
    refine z_iconst F dX9_personIs_15 1 (by decide) 16 rfl ?_
    refine z_callVi F dX9_personIs_16 m_334 iX9_fail jX9_fail rfl zc8 rfl (kX9_fail σ (k := 1) (by decide) (by decide)) rfl (by decide) (Nat.le_of_ble_eq_true rfl) 19 rfl (fun r16 s16 c16 => ?_)
    refine z_ri F dX9_personIs_19 ?_
    obtain ⟨rfl, rfl⟩ := c16
    exact fin (by
      unfold aPersonIs
      (repeat' split) <;> first | rfl | contradiction | (exfalso; simp only [Int32.lt_iff_toInt_lt, Int32.le_iff_toInt_le, ← Int32.toInt_inj, Int32.reduceToInt] at *; omega)) (hR.fail (by decide) (by decide))
set_option maxHeartbeats 400000 in
set_option maxRecDepth 10000 in
theorem kX9_become {l : Launch} {E : z_E} (σ : z_M) {μ : z_M} (hR : Rel σ μ) (x : Int32) (km : Int32)  : z_C l E shC 1 yX9_become cX9_become 4 (some FieldType.int) [.ref (z_ad E 0), .int x, .int km] σ (z_Pi (fun rv σ' => rv = (aBecome μ x km).1 ∧ Rel σ' (aBecome μ x km).2)) := by
  refine z_intro iX9_become (Nat.le_of_ble_eq_true rfl) (fun K F => ?_)
  have hc : σ 2 0 = μ 1 2 := hR.1.1.1
  have hn : μ 1 2 = nI (nP (μ 1)) := hR.2.1.1.1
  have h8 : nP (μ 1) ≤ 8 := hR.n8
  refine z_aload_n F dX9_become_0 0 rfl 1 rfl ?_
  refine z_getR F zc8 dX9_become_1 rfl 0 (by decide) (by decide) (.inl m_302) rfl (by decide) 4 rfl ?_
  refine z_getR F zc7 dX9_become_4 rfl 0 (by decide) (by decide) (.inr ⟨_, m_200⟩) rfl (by decide) 7 rfl ?_
  refine z_iload_n F dX9_become_7 1 rfl 8 rfl ?_
  refine z_callVp F dX9_become_8 m_370 iX1_has jX1_has rfl zc1 rfl (kX1_has σ _) rfl (by decide) (Nat.le_of_ble_eq_true rfl) 11 rfl ?_
  refine z_if_eq F dX9_become_11 21 (by decide) 14 rfl (fun h11 => ?_) (fun h11 => ?_)
  · skip
    have h11 := bI0.mp h11
    refine z_aload_n F dX9_become_21 0 rfl 22 rfl ?_
    refine z_iconst F dX9_become_22 1 (by decide) 23 rfl ?_
    refine z_callVi F dX9_become_23 m_334 iX9_fail jX9_fail rfl zc8 rfl (kX9_fail σ (k := 1) (by decide) (by decide)) rfl (by decide) (Nat.le_of_ble_eq_true rfl) 26 rfl (fun r23 s23 c23 => ?_)
    refine z_ri F dX9_become_26 ?_
    obtain ⟨rfl, rfl⟩ := c23
    exact fin (by
      unfold aBecome
      (repeat' split) <;> first | rfl | contradiction | (exfalso; simp only [Int32.lt_iff_toInt_lt, Int32.le_iff_toInt_le, ← Int32.toInt_inj, Int32.reduceToInt] at *; omega)) (hR.fail (by decide) (by decide))
  · skip
    have h11 := bI1.mp h11
    refine z_iload_n F dX9_become_14 2 rfl 15 rfl ?_
    refine z_callSp F dX9_become_15 m_331 iX9_isKm m_332 rfl (kX9_isKm σ km) rfl (by decide) (Nat.le_of_ble_eq_true rfl) 18 rfl ?_
    refine z_if_ne F dX9_become_18 27 (by decide) 21 rfl (fun h18 => ?_) (fun h18 => ?_)
    · skip
      have h18 := bI1.mp h18
      obtain ⟨i, hi, rfl⟩ := isP_of (n := nP (μ 1)) (hn ▸ hc ▸ h11) (by omega)
      have i31 : i < 2 ^ 31 := by omega
      obtain ⟨q, hq, rfl⟩ : ∃ q, q < 70 ∧ km = nI q := isP_of (n := 70) ⟨h18.1, by show km < 70; simp only [Int32.lt_iff_toInt_lt, Int32.le_iff_toInt_le, ← Int32.toInt_inj, Int32.reduceToInt] at *; omega⟩ (by decide)
      refine z_aload_n F dX9_become_27 0 rfl 28 rfl ?_
      refine z_getR F zc8 dX9_become_28 rfl 0 (by decide) (by decide) (.inl m_302) rfl (by decide) 31 rfl ?_
      refine z_getR F zc7 dX9_become_31 rfl 0 (by decide) (by decide) (.inr ⟨_, m_200⟩) rfl (by decide) 34 rfl ?_
      refine z_getR F zc1 dX9_become_34 rfl 1 (by decide) (by decide) (.inr ⟨_, m_114⟩) rfl (by decide) 37 rfl ?_
      refine z_iload_n F dX9_become_37 1 rfl 38 rfl ?_
      refine z_iald F dX9_become_38 rfl (vp_in_nI (by omega) (by decide)) 39 rfl ?_
      rw [nI_clamp i31]
      refine z_istore_n F dX9_become_39 [(0, _), (1, _), (2, _), (3, _)] rfl (by decide) 40 rfl ?_
      refine z_aload_n F dX9_become_40 0 rfl 41 rfl ?_
      refine z_getR F zc8 dX9_become_41 rfl 0 (by decide) (by decide) (.inl m_302) rfl (by decide) 44 rfl ?_
      refine z_getR F zc7 dX9_become_44 rfl 0 (by decide) (by decide) (.inr ⟨_, m_200⟩) rfl (by decide) 47 rfl ?_
      refine z_getR F zc1 dX9_become_47 rfl 1 (by decide) (by decide) (.inr ⟨_, m_114⟩) rfl (by decide) 50 rfl ?_
      refine z_iload_n F dX9_become_50 1 rfl 51 rfl ?_
      refine z_iload_n F dX9_become_51 2 rfl 52 rfl ?_
      refine z_bipush F dX9_become_52 10 (by decide) 54 rfl ?_
      refine z_idiv F dX9_become_54 (by decide) 55 rfl ?_
      refine z_iast F dX9_become_55 rfl (vp_in_nI (by omega) (by decide)) 56 rfl ?_
      rw [nI_clamp i31]
      refine z_aload_n F dX9_become_56 0 rfl 57 rfl ?_
      refine z_getR F zc8 dX9_become_57 rfl 0 (by decide) (by decide) (.inl m_302) rfl (by decide) 60 rfl ?_
      refine z_getR F zc7 dX9_become_60 rfl 0 (by decide) (by decide) (.inr ⟨_, m_200⟩) rfl (by decide) 63 rfl ?_
      refine z_getR F zc1 dX9_become_63 rfl 2 (by decide) (by decide) (.inr ⟨_, m_117⟩) rfl (by decide) 66 rfl ?_
      refine z_iload_n F dX9_become_66 1 rfl 67 rfl ?_
      refine z_iload_n F dX9_become_67 2 rfl 68 rfl ?_
      refine z_bipush F dX9_become_68 10 (by decide) 70 rfl ?_
      refine z_irem F dX9_become_70 (by decide) 71 rfl ?_
      refine z_iast F dX9_become_71 rfl (vp_in_nI (by omega) (by decide)) 72 rfl ?_
      rw [nI_clamp i31]
      refine z_iload_n F dX9_become_72 3 rfl 73 rfl ?_
      refine z_ri F dX9_become_73 ?_
      have e : σ 3 i = pO (μ 1) i 0 := ((kin1.mp hR.1.1).2 i hi).1
      rw [e, (km_at q hq).2, (km_at q hq).1]
      have hk := (kin1.mp hR.1.1).2
      have hms : MS [3, 4] σ (z_u2 (z_u2 σ 3 i (nI (q / 10))) 4 i (nI (q % 10))) := (MS.rf.u2 (by decide)).u2 (by decide)
      have hp : ∀ j w, w < 5 → pO (pU (pU (μ 1) i 1 (nI (q % 10))) i 0 (nI (q / 10))) j w = if j = i ∧ w = 0 then nI (q / 10) else if j = i ∧ w = 1 then nI (q % 10) else pO (μ 1) j w := fun j w hw => by rw [pO_pU (by decide) hw, pO_pU (by decide) hw]
      have hN : nP (pU (pU (μ 1) i 1 (nI (q % 10))) i 0 (nI (q / 10))) = nP (μ 1) := by rw [nP_pU, nP_pU]
      have hd : ∀ a b, dS (pU (pU (μ 1) i 1 (nI (q % 10))) i 0 (nI (q / 10))) a b = dS (μ 1) a b := fun a b => by
        unfold dS; rw [hN]; congr 1; funext a b; unfold adj
        rw [hp a 2 (by decide), hp b 2 (by decide), hp a 3 (by decide)]; simp
      refine fin (m := z_up μ 1 (pU (pU (μ 1) i 1 (nI (q % 10))) i 0 (nI (q / 10)))) (by
        unfold aBecome
        simp only [nI_clamp i31, (km_at q hq).1, km_a2 q hq]
        (repeat' split) <;> first | rfl | contradiction | (exfalso; simp only [Int32.lt_iff_toInt_lt, Int32.le_iff_toInt_le, ← Int32.toInt_inj, Int32.reduceToInt] at *; omega)) (hR.kin (hms.sub (by decide)) (kin1.mpr ⟨?_, fun j hj => ?_⟩) (fun a b ha hb => ?_) ⟨?_, ?_, fun j hj => ?_⟩ (fun k a b => by rw [pU_lo a, pU_lo a]) (fun k a => by rw [pU_19 (by omega) (by decide) (Or.inr a), pU_19 (by omega) (by decide) (Or.inr a)]) (by rw [hN]; exact Nat.le_refl _) (fun j hj => by rw [hN] at hj; rw [hp j 4 (by decide), if_pos hj]; simp))
      · rw [pU_lo (by decide), pU_lo (by decide)]; exact hc
      · rw [hN] at hj
        obtain ⟨e1, e2, e3, e4⟩ := hk j hj
        rw [hp j 0 (by decide), hp j 1 (by decide), hp j 2 (by decide), hp j 3 (by decide)]
        refine ⟨?_, ?_, ?_, ?_⟩
        · rw [u2_o (by decide), u2_at]; by_cases z : j = i <;> simp [z, e1]
        · rw [u2_at, u2_o (by decide)]; by_cases z : j = i <;> simp [z, e2]
        · rw [u2_o (by decide), u2_o (by decide)]; simp [e3]
        · rw [u2_o (by decide), u2_o (by decide)]; simp [e4]
      · rw [hN] at ha hb
        rw [hd, u2_o (by decide), u2_o (by decide)]; exact hR.1.2.1 a b ha hb
      · rw [hN, pU_lo (by decide), pU_lo (by decide)]; exact hn
      · rw [hN]; exact h8
      · rw [hN] at hj
        obtain ⟨v1, v2, v3, v4⟩ := hR.vk.2.2 j hj
        rw [hp j 0 (by decide), hp j 1 (by decide), hp j 2 (by decide), hp j 3 (by decide), hN]
        refine ⟨?_, ?_, by simpa using v3, ?_⟩
        · by_cases z : j = i
          · exact ⟨q / 10, by omega, by simp [z]⟩
          · simpa [z] using v1
        · by_cases z : j = i
          · exact ⟨q % 10, by omega, by simp [z]⟩
          · simpa [z] using v2
        · rcases v4 with v4 | ⟨t, t1, t2, t3, t4⟩
          · left; simpa using v4
          · right; exact ⟨t, t1, t2, by simpa using t3, by rw [hp t 3 (by decide)]; simpa using t4⟩
    · skip
      have h18 := bI0.mp h18
      refine z_aload_n F dX9_become_21 0 rfl 22 rfl ?_
      refine z_iconst F dX9_become_22 1 (by decide) 23 rfl ?_
      refine z_callVi F dX9_become_23 m_334 iX9_fail jX9_fail rfl zc8 rfl (kX9_fail σ (k := 1) (by decide) (by decide)) rfl (by decide) (Nat.le_of_ble_eq_true rfl) 26 rfl (fun r23 s23 c23 => ?_)
      refine z_ri F dX9_become_26 ?_
      obtain ⟨rfl, rfl⟩ := c23
      exact fin (by
        unfold aBecome
        (repeat' split) <;> first | rfl | contradiction | (exfalso; simp only [Int32.lt_iff_toInt_lt, Int32.le_iff_toInt_le, ← Int32.toInt_inj, Int32.reduceToInt] at *; omega)) (hR.fail (by decide) (by decide))
set_option maxHeartbeats 400000 in
set_option maxRecDepth 10000 in
theorem kX9_as {l : Launch} {E : z_E} (σ : z_M) {μ : z_M} (hR : Rel σ μ) (x : Int32) (k : Int32)  : z_C l E shC 3 yX9_as cX9_as 3 (some FieldType.int) [.ref (z_ad E 0), .int x, .int k] σ (z_Pi (fun rv σ' => rv = (aAs μ x k).1 ∧ Rel σ' (aAs μ x k).2)) := by
  refine z_intro iX9_as (Nat.le_of_ble_eq_true rfl) (fun K F => ?_)
  have hc : σ 2 0 = μ 1 2 := hR.1.1.1
  have hn : μ 1 2 = nI (nP (μ 1)) := hR.2.1.1.1
  have h8 : nP (μ 1) ≤ 8 := hR.n8
  refine z_aload_n F dX9_as_0 0 rfl 1 rfl ?_
  refine z_getR F zc8 dX9_as_1 rfl 0 (by decide) (by decide) (.inl m_302) rfl (by decide) 4 rfl ?_
  refine z_getR F zc7 dX9_as_4 rfl 0 (by decide) (by decide) (.inr ⟨_, m_200⟩) rfl (by decide) 7 rfl ?_
  refine z_iload_n F dX9_as_7 1 rfl 8 rfl ?_
  refine z_callVp F dX9_as_8 m_370 iX1_has jX1_has rfl zc1 rfl (kX1_has σ _) rfl (by decide) (Nat.le_of_ble_eq_true rfl) 11 rfl ?_
  refine z_if_eq F dX9_as_11 21 (by decide) 14 rfl (fun h11 => ?_) (fun h11 => ?_)
  · skip
    have h11 := bI0.mp h11
    refine z_aload_n F dX9_as_21 0 rfl 22 rfl ?_
    refine z_iconst F dX9_as_22 1 (by decide) 23 rfl ?_
    refine z_callVi F dX9_as_23 m_334 iX9_fail jX9_fail rfl zc8 rfl (kX9_fail σ (k := 1) (by decide) (by decide)) rfl (by decide) (Nat.le_of_ble_eq_true rfl) 26 rfl (fun r23 s23 c23 => ?_)
    refine z_ri F dX9_as_26 ?_
    obtain ⟨rfl, rfl⟩ := c23
    exact fin (by
      unfold aAs
      (repeat' split) <;> first | rfl | contradiction | (exfalso; simp only [Int32.lt_iff_toInt_lt, Int32.le_iff_toInt_le, ← Int32.toInt_inj, Int32.reduceToInt] at *; omega)) (hR.fail (by decide) (by decide))
  · skip
    have h11 := bI1.mp h11
    refine z_iload_n F dX9_as_14 2 rfl 15 rfl ?_
    refine z_callSp F dX9_as_15 m_418 iX2_isKind m_419 rfl (kX2_isKind σ k) rfl (by decide) (Nat.le_of_ble_eq_true rfl) 18 rfl ?_
    refine z_if_ne F dX9_as_18 27 (by decide) 21 rfl (fun h18 => ?_) (fun h18 => ?_)
    · skip
      have h18 := bI1.mp h18
      obtain ⟨i, hi, rfl⟩ := isP_of (n := nP (μ 1)) (hn ▸ hc ▸ h11) (by omega)
      have i31 : i < 2 ^ 31 := by omega
      refine z_aload_n F dX9_as_27 0 rfl 28 rfl ?_
      refine z_getR F zc8 dX9_as_28 rfl 0 (by decide) (by decide) (.inl m_302) rfl (by decide) 31 rfl ?_
      refine z_getR F zc7 dX9_as_31 rfl 0 (by decide) (by decide) (.inr ⟨_, m_200⟩) rfl (by decide) 34 rfl ?_
      refine z_getR F zc1 dX9_as_34 rfl 1 (by decide) (by decide) (.inr ⟨_, m_114⟩) rfl (by decide) 37 rfl ?_
      refine z_iload_n F dX9_as_37 1 rfl 38 rfl ?_
      refine z_iald F dX9_as_38 rfl (vp_in_nI (by omega) (by decide)) 39 rfl ?_
      rw [nI_clamp i31, show σ 3 i = pO (μ 1) i 0 from ((kin1.mp hR.1.1).2 i hi).1]
      refine z_iload_n F dX9_as_39 2 rfl 40 rfl ?_
      refine z_callSp F dX9_as_40 m_423 iX2_isUnder m_424 rfl (kX2_isUnder σ _ _) rfl (by decide) (Nat.le_of_ble_eq_true rfl) 43 rfl ?_
      refine z_if_ne F dX9_as_43 52 (by decide) 46 rfl (fun h43 => ?_) (fun h43 => ?_)
      · skip
        have h43 := bI1.mp h43
        refine z_aload_n F dX9_as_52 0 rfl 53 rfl ?_
        refine z_getR F zc8 dX9_as_53 rfl 0 (by decide) (by decide) (.inl m_302) rfl (by decide) 56 rfl ?_
        refine z_getR F zc7 dX9_as_56 rfl 0 (by decide) (by decide) (.inr ⟨_, m_200⟩) rfl (by decide) 59 rfl ?_
        refine z_getR F zc1 dX9_as_59 rfl 2 (by decide) (by decide) (.inr ⟨_, m_117⟩) rfl (by decide) 62 rfl ?_
        refine z_iload_n F dX9_as_62 1 rfl 63 rfl ?_
        refine z_iald F dX9_as_63 rfl (vp_in_nI (by omega) (by decide)) 64 rfl ?_
        rw [nI_clamp i31, show σ 4 i = pO (μ 1) i 1 from ((kin1.mp hR.1.1).2 i hi).2.1]
        refine z_ri F dX9_as_64 ?_
        exact fin (by
          unfold aAs
          simp only [nI_clamp i31]
          (repeat' split) <;> first | rfl | contradiction | (exfalso; simp only [Int32.lt_iff_toInt_lt, Int32.le_iff_toInt_le, ← Int32.toInt_inj, Int32.reduceToInt] at *; omega)) hR
      · skip
        have h43 := bI0.mp h43
        refine z_aload_n F dX9_as_46 0 rfl 47 rfl ?_
        refine z_iconst F dX9_as_47 5 (by decide) 48 rfl ?_
        refine z_callVi F dX9_as_48 m_334 iX9_fail jX9_fail rfl zc8 rfl (kX9_fail σ (k := 5) (by decide) (by decide)) rfl (by decide) (Nat.le_of_ble_eq_true rfl) 51 rfl (fun r48 s48 c48 => ?_)
        refine z_ri F dX9_as_51 ?_
        obtain ⟨rfl, rfl⟩ := c48
        exact fin (by
          unfold aAs
          simp only [nI_clamp i31]
          (repeat' split) <;> first | rfl | contradiction | (exfalso; simp only [Int32.lt_iff_toInt_lt, Int32.le_iff_toInt_le, ← Int32.toInt_inj, Int32.reduceToInt] at *; omega)) (hR.fail (by decide) (by decide))
    · skip
      have h18 := bI0.mp h18
      refine z_aload_n F dX9_as_21 0 rfl 22 rfl ?_
      refine z_iconst F dX9_as_22 1 (by decide) 23 rfl ?_
      refine z_callVi F dX9_as_23 m_334 iX9_fail jX9_fail rfl zc8 rfl (kX9_fail σ (k := 1) (by decide) (by decide)) rfl (by decide) (Nat.le_of_ble_eq_true rfl) 26 rfl (fun r23 s23 c23 => ?_)
      refine z_ri F dX9_as_26 ?_
      obtain ⟨rfl, rfl⟩ := c23
      exact fin (by
        unfold aAs
        (repeat' split) <;> first | rfl | contradiction | (exfalso; simp only [Int32.lt_iff_toInt_lt, Int32.le_iff_toInt_le, ← Int32.toInt_inj, Int32.reduceToInt] at *; omega)) (hR.fail (by decide) (by decide))
set_option maxHeartbeats 400000 in
set_option maxRecDepth 10000 in
theorem kX9_steps {l : Launch} {E : z_E} (σ : z_M) {μ : z_M} (hR : Rel σ μ) (x : Int32) (y : Int32)  : z_C l E shC 1 yX9_steps cX9_steps 3 (some FieldType.int) [.ref (z_ad E 0), .int x, .int y] σ (z_Pi (fun rv σ' => rv = (aSteps μ x y).1 ∧ Rel σ' (aSteps μ x y).2)) := by
  refine z_intro iX9_steps (Nat.le_of_ble_eq_true rfl) (fun K F => ?_)
  have hc : σ 2 0 = μ 1 2 := hR.1.1.1
  have hn : μ 1 2 = nI (nP (μ 1)) := hR.2.1.1.1
  have h8 : nP (μ 1) ≤ 8 := hR.n8
  refine z_aload_n F dX9_steps_0 0 rfl 1 rfl ?_
  refine z_getR F zc8 dX9_steps_1 rfl 0 (by decide) (by decide) (.inl m_302) rfl (by decide) 4 rfl ?_
  refine z_getR F zc7 dX9_steps_4 rfl 0 (by decide) (by decide) (.inr ⟨_, m_200⟩) rfl (by decide) 7 rfl ?_
  refine z_iload_n F dX9_steps_7 1 rfl 8 rfl ?_
  refine z_callVp F dX9_steps_8 m_370 iX1_has jX1_has rfl zc1 rfl (kX1_has σ _) rfl (by decide) (Nat.le_of_ble_eq_true rfl) 11 rfl ?_
  refine z_if_eq F dX9_steps_11 28 (by decide) 14 rfl (fun h11 => ?_) (fun h11 => ?_)
  · skip
    have h11 := bI0.mp h11
    refine z_aload_n F dX9_steps_28 0 rfl 29 rfl ?_
    refine z_iconst F dX9_steps_29 1 (by decide) 30 rfl ?_
    refine z_callVi F dX9_steps_30 m_334 iX9_fail jX9_fail rfl zc8 rfl (kX9_fail σ (k := 1) (by decide) (by decide)) rfl (by decide) (Nat.le_of_ble_eq_true rfl) 33 rfl (fun r30 s30 c30 => ?_)
    refine z_ri F dX9_steps_33 ?_
    obtain ⟨rfl, rfl⟩ := c30
    exact fin (by
      unfold aSteps
      (repeat' split) <;> first | rfl | contradiction | (exfalso; simp only [Int32.lt_iff_toInt_lt, Int32.le_iff_toInt_le, ← Int32.toInt_inj, Int32.reduceToInt] at *; omega)) (hR.fail (by decide) (by decide))
  · skip
    have h11 := bI1.mp h11
    refine z_aload_n F dX9_steps_14 0 rfl 15 rfl ?_
    refine z_getR F zc8 dX9_steps_15 rfl 0 (by decide) (by decide) (.inl m_302) rfl (by decide) 18 rfl ?_
    refine z_getR F zc7 dX9_steps_18 rfl 0 (by decide) (by decide) (.inr ⟨_, m_200⟩) rfl (by decide) 21 rfl ?_
    refine z_iload_n F dX9_steps_21 2 rfl 22 rfl ?_
    refine z_callVp F dX9_steps_22 m_370 iX1_has jX1_has rfl zc1 rfl (kX1_has σ _) rfl (by decide) (Nat.le_of_ble_eq_true rfl) 25 rfl ?_
    refine z_if_ne F dX9_steps_25 34 (by decide) 28 rfl (fun h25 => ?_) (fun h25 => ?_)
    · skip
      have h25 := bI1.mp h25
      obtain ⟨i, hi, rfl⟩ := isP_of (n := nP (μ 1)) (hn ▸ hc ▸ h11) (by omega)
      have i31 : i < 2 ^ 31 := by omega
      obtain ⟨j, hj, rfl⟩ := isP_of (n := nP (μ 1)) (hn ▸ hc ▸ h25) (by omega)
      have j31 : j < 2 ^ 31 := by omega
      refine z_aload_n F dX9_steps_34 0 rfl 35 rfl ?_
      refine z_getR F zc8 dX9_steps_35 rfl 0 (by decide) (by decide) (.inl m_302) rfl (by decide) 38 rfl ?_
      refine z_getR F zc7 dX9_steps_38 rfl 0 (by decide) (by decide) (.inr ⟨_, m_200⟩) rfl (by decide) 41 rfl ?_
      refine z_iload_n F dX9_steps_41 1 rfl 42 rfl ?_
      refine z_iload_n F dX9_steps_42 2 rfl 43 rfl ?_
      refine z_callVp F dX9_steps_43 m_463 iX1_between jX1_between rfl zc1 rfl (kX1_between σ (i := i) (j := j) (by omega) (by omega)) rfl (by decide) (Nat.le_of_ble_eq_true rfl) 46 rfl ?_
      refine z_ri F dX9_steps_46 ?_
      rw [show σ 7 (i * 8 + j) = nI (dS (μ 1) i j) from hR.1.2.1 i j hi hj]
      exact fin (by
        unfold aSteps
        simp only [nI_clamp i31, nI_clamp j31]
        (repeat' split) <;> first | rfl | contradiction | (exfalso; simp only [Int32.lt_iff_toInt_lt, Int32.le_iff_toInt_le, ← Int32.toInt_inj, Int32.reduceToInt] at *; omega)) hR
    · skip
      have h25 := bI0.mp h25
      refine z_aload_n F dX9_steps_28 0 rfl 29 rfl ?_
      refine z_iconst F dX9_steps_29 1 (by decide) 30 rfl ?_
      refine z_callVi F dX9_steps_30 m_334 iX9_fail jX9_fail rfl zc8 rfl (kX9_fail σ (k := 1) (by decide) (by decide)) rfl (by decide) (Nat.le_of_ble_eq_true rfl) 33 rfl (fun r30 s30 c30 => ?_)
      refine z_ri F dX9_steps_33 ?_
      obtain ⟨rfl, rfl⟩ := c30
      exact fin (by
        unfold aSteps
        (repeat' split) <;> first | rfl | contradiction | (exfalso; simp only [Int32.lt_iff_toInt_lt, Int32.le_iff_toInt_le, ← Int32.toInt_inj, Int32.reduceToInt] at *; omega)) (hR.fail (by decide) (by decide))
set_option maxHeartbeats 400000 in
set_option maxRecDepth 10000 in
theorem kX9_lets {l : Launch} {E : z_E} (σ : z_M) {μ : z_M} (hR : Rel σ μ) (x : Int32) (y : Int32)  : z_C l E shC 4 yX9_lets cX9_lets 3 (some FieldType.int) [.ref (z_ad E 0), .int x, .int y] σ (z_Pi (fun rv σ' => rv = (aLets μ x y).1 ∧ Rel σ' (aLets μ x y).2)) := by
  refine z_intro iX9_lets (Nat.le_of_ble_eq_true rfl) (fun K F => ?_)
  have hc : σ 2 0 = μ 1 2 := hR.1.1.1
  have hn : μ 1 2 = nI (nP (μ 1)) := hR.2.1.1.1
  have h8 : nP (μ 1) ≤ 8 := hR.n8
  refine z_aload_n F dX9_lets_0 0 rfl 1 rfl ?_
  refine z_getR F zc8 dX9_lets_1 rfl 0 (by decide) (by decide) (.inl m_302) rfl (by decide) 4 rfl ?_
  refine z_getR F zc7 dX9_lets_4 rfl 0 (by decide) (by decide) (.inr ⟨_, m_200⟩) rfl (by decide) 7 rfl ?_
  refine z_iload_n F dX9_lets_7 1 rfl 8 rfl ?_
  refine z_callVp F dX9_lets_8 m_370 iX1_has jX1_has rfl zc1 rfl (kX1_has σ _) rfl (by decide) (Nat.le_of_ble_eq_true rfl) 11 rfl ?_
  refine z_if_eq F dX9_lets_11 28 (by decide) 14 rfl (fun h11 => ?_) (fun h11 => ?_)
  · skip
    have h11 := bI0.mp h11
    refine z_aload_n F dX9_lets_28 0 rfl 29 rfl ?_
    refine z_iconst F dX9_lets_29 1 (by decide) 30 rfl ?_
    refine z_callVi F dX9_lets_30 m_334 iX9_fail jX9_fail rfl zc8 rfl (kX9_fail σ (k := 1) (by decide) (by decide)) rfl (by decide) (Nat.le_of_ble_eq_true rfl) 33 rfl (fun r30 s30 c30 => ?_)
    refine z_ri F dX9_lets_33 ?_
    obtain ⟨rfl, rfl⟩ := c30
    exact fin (by
      unfold aLets
      (repeat' split) <;> first | rfl | contradiction | (exfalso; simp only [Int32.lt_iff_toInt_lt, Int32.le_iff_toInt_le, ← Int32.toInt_inj, Int32.reduceToInt] at *; omega)) (hR.fail (by decide) (by decide))
  · skip
    have h11 := bI1.mp h11
    refine z_aload_n F dX9_lets_14 0 rfl 15 rfl ?_
    refine z_getR F zc8 dX9_lets_15 rfl 0 (by decide) (by decide) (.inl m_302) rfl (by decide) 18 rfl ?_
    refine z_getR F zc7 dX9_lets_18 rfl 0 (by decide) (by decide) (.inr ⟨_, m_200⟩) rfl (by decide) 21 rfl ?_
    refine z_iload_n F dX9_lets_21 2 rfl 22 rfl ?_
    refine z_callVp F dX9_lets_22 m_370 iX1_has jX1_has rfl zc1 rfl (kX1_has σ _) rfl (by decide) (Nat.le_of_ble_eq_true rfl) 25 rfl ?_
    refine z_if_ne F dX9_lets_25 34 (by decide) 28 rfl (fun h25 => ?_) (fun h25 => ?_)
    · skip
      have h25 := bI1.mp h25
      obtain ⟨i, hi, rfl⟩ := isP_of (n := nP (μ 1)) (hn ▸ hc ▸ h11) (by omega)
      have i31 : i < 2 ^ 31 := by omega
      obtain ⟨j, hj, rfl⟩ := isP_of (n := nP (μ 1)) (hn ▸ hc ▸ h25) (by omega)
      have j31 : j < 2 ^ 31 := by omega
      refine z_aload_n F dX9_lets_34 0 rfl 35 rfl ?_
      refine z_getR F zc8 dX9_lets_35 rfl 0 (by decide) (by decide) (.inl m_302) rfl (by decide) 38 rfl ?_
      refine z_iload_n F dX9_lets_38 1 rfl 39 rfl ?_
      refine z_iload_n F dX9_lets_39 2 rfl 40 rfl ?_
      refine z_aload_n F dX9_lets_40 0 rfl 41 rfl ?_
      refine z_getR F zc8 dX9_lets_41 rfl 0 (by decide) (by decide) (.inl m_302) rfl (by decide) 44 rfl ?_
      refine z_getR F zc7 dX9_lets_44 rfl 1 (by decide) (by decide) (.inr ⟨_, m_202⟩) rfl (by decide) 47 rfl ?_
      refine z_callVi F dX9_lets_47 m_468 iX8_veilsOf jX8_veilsOf rfl zc7 rfl (kX8_veilsOfN σ (r := μ 1) hR.now hR.crs.1 hi hj) rfl (by decide) (Nat.le_of_ble_eq_true rfl) 50 rfl (fun r47 s47 c47 => ?_)
      refine z_ri F dX9_lets_50 ?_
      obtain ⟨rfl, m47⟩ := c47
      exact fin (by
        unfold aLets
        simp only [nI_clamp i31, nI_clamp j31]
        (repeat' split) <;> first | rfl | contradiction | (exfalso; simp only [Int32.lt_iff_toInt_lt, Int32.le_iff_toInt_le, ← Int32.toInt_inj, Int32.reduceToInt] at *; omega)) (hR.gar m47 (by decide) (by decide))
    · skip
      have h25 := bI0.mp h25
      refine z_aload_n F dX9_lets_28 0 rfl 29 rfl ?_
      refine z_iconst F dX9_lets_29 1 (by decide) 30 rfl ?_
      refine z_callVi F dX9_lets_30 m_334 iX9_fail jX9_fail rfl zc8 rfl (kX9_fail σ (k := 1) (by decide) (by decide)) rfl (by decide) (Nat.le_of_ble_eq_true rfl) 33 rfl (fun r30 s30 c30 => ?_)
      refine z_ri F dX9_lets_33 ?_
      obtain ⟨rfl, rfl⟩ := c30
      exact fin (by
        unfold aLets
        (repeat' split) <;> first | rfl | contradiction | (exfalso; simp only [Int32.lt_iff_toInt_lt, Int32.le_iff_toInt_le, ← Int32.toInt_inj, Int32.reduceToInt] at *; omega)) (hR.fail (by decide) (by decide))
