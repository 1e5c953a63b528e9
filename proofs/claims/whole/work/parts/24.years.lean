/-! years, and what is only thought -/
theorem up_up {μ : z_M} {o : Nat} {f g : Nat → Int32} : z_up (z_up μ o f) o g = z_up μ o g := by
  funext q; unfold z_up; by_cases z : q = o <;> simp [z]
theorem up_id {μ : z_M} {o : Nat} : z_up μ o (μ o) = μ := by
  funext q; unfold z_up; by_cases z : q = o <;> simp [z]
theorem goN_add (r : Rw) (a : Nat) : ∀ b, goN b (goN a r) = goN (a + b) r
  | 0 => rfl
  | b + 1 => by show goS (goN b (goN a r)) = _; rw [goN_add r a b]; rfl
def looN : Nat → Rw → Rw
  | 0, r => r
  | k + 1, r => goS (drR (looN k r))
def aYears (μ : z_M) (n : Int32) : Op := if 1 ≤ n ∧ n ≤ 60 then (if μ 1 0 + n ≤ 9999 then (nI (allN (goN n.toNatClampNeg (μ 1))), z_up μ 1 (goN n.toNatClampNeg (μ 1))) else er μ 3) else er μ 1
def aLoose (μ : z_M) (n : Int32) : Op := if 1 ≤ n ∧ n ≤ 30 then (if μ 1 0 + n ≤ 9999 then (nI (allN (looN n.toNatClampNeg (μ 1))), z_up μ 1 (looN n.toNatClampNeg (μ 1))) else er μ 3) else er μ 1
def aThen (μ : z_M) (x n : Int32) : Op := if (0 ≤ x ∧ x < μ 1 2) ∧ 0 ≤ n ∧ n ≤ 60 then (pO (goN n.toNatClampNeg (μ 1)) x.toNatClampNeg 4, μ) else er μ 1
def soonN (r : Rw) (i j : Nat) : Nat := fstF (fun n => (sN (goN n r) i).testBit j) 61 0
def aSoonest (μ : z_M) (x y : Int32) : Op := if (0 ≤ x ∧ x < μ 1 2) ∧ 0 ≤ y ∧ y < μ 1 2 then (if soonN (μ 1) x.toNatClampNeg y.toNatClampNeg = 61 then er μ 2 else (nI (soonN (μ 1) x.toNatClampNeg y.toNatClampNeg), μ)) else er μ 1
def ordN (r : Rw) (i n : Nat) : Nat := fstF (fun v => decide (seersN (goN n (upd r 4 (nI v))) i = seersN r i)) 41 0
def aOrderFor (μ : z_M) (x n : Int32) : Op := if (0 ≤ x ∧ x < μ 1 2) ∧ 0 ≤ n ∧ n ≤ 40 then (if ordN (μ 1) x.toNatClampNeg n.toNatClampNeg = 41 then er μ 2 else (nI (ordN (μ 1) x.toNatClampNeg n.toNatClampNeg), μ)) else er μ 1
def aSeers (μ : z_M) (x : Int32) : Op := if 0 ≤ x ∧ x < μ 1 2 then (nI (seersN (μ 1) x.toNatClampNeg), μ) else er μ 1
def aMatch (μ : z_M) (x y w : Int32) : Op := if ((0 ≤ x ∧ x < μ 1 2) ∧ 0 ≤ y ∧ y < μ 1 2) ∧ 0 ≤ w ∧ w ≤ 1 then (if (mS (μ 1) x.toNatClampNeg y.toNatClampNeg 64).2 = 100 then er μ 2 else (if w = 0 then nI (mS (μ 1) x.toNatClampNeg y.toNatClampNeg 64).2 else nI (mS (μ 1) x.toNatClampNeg y.toNatClampNeg 64).1, μ)) else er μ 1
theorem VT.le {Y Z : Nat} {r : Rw} (h : VT Y r) (hyz : Y ≤ Z) : VT Z r := ⟨by obtain ⟨y, a, b⟩ := h.1; exact ⟨y, by omega, b⟩, h.2⟩
theorem all_8 {r : Rw} (h : nP r ≤ 8) : sumS (fun p => pcN (sN r p)) 8 = allN r := sumS_cut h (fun i hi => by rw [sN_out hi]; decide)
theorem seers_8 {r : Rw} (h : nP r ≤ 8) (q : Nat) : setOf (fun o => (sN r o).testBit q) 8 = seersN r q := setOf_cut h (fun i hi => by rw [sN_out hi]; simp)
theorem Rel.goN {σ σ' μ : z_M} (h : Rel σ μ) {y n : Nat} (ey : μ 1 0 = nI y) (hn : y + n ≤ 9999) (hn2 : n < 1000) (hs : MS [8, 9, 16, 20] σ σ') (hc : CrsR σ' 8 9 (goN n (μ 1))) : Rel σ' (z_up μ 1 (goN n (μ 1))) := by
  have hv : VT y (μ 1) := ⟨⟨y, Nat.le_refl _, ey⟩, h.vt.2⟩
  exact h.yrs hs (eqC.goN h.2.1.2.2.2.1 n) hc ((VT_goN hv (by omega) h.vk h.2.1.2.2.2.1 n hn2).le hn)
theorem Rel.draw {σ μ : z_M} (h : Rel σ μ) : Rel (z_u2 (z_u2 (z_u2 (z_u2 σ 1 7 (dzS (σ 1 7))) 10 ((μ 1 0).toNatClampNeg % 6) (rem8 (doS (dzS (σ 1 7))))) 1 7 (dzS (dzS (σ 1 7)))) 11 ((μ 1 0).toNatClampNeg % 6) (rem8 (doS (dzS (dzS (σ 1 7)))))) (z_up μ 1 (drR (μ 1))) := by
  have ez : σ 1 7 = μ 1 1 := h.1.2.2.2.2.2.2.2.2
  rw [ez]
  have hq : (μ 1 0).toNatClampNeg % 6 < 6 := Nat.mod_lt _ (by decide)
  have ed : drR (μ 1) = upd (upd (upd (μ 1) 1 (dzS (dzS (μ 1 1)))) (7 + 2 * ((μ 1 0).toNatClampNeg % 6)) (rem8 (doS (dzS (μ 1 1))))) (8 + 2 * ((μ 1 0).toNatClampNeg % 6)) (rem8 (doS (dzS (dzS (μ 1 1))))) := rfl
  generalize (μ 1 0).toNatClampNeg % 6 = q at hq ed ⊢
  obtain ⟨a, ha, ea⟩ := do_rng (dzS (μ 1 1))
  obtain ⟨b, hb, eb⟩ := do_rng (dzS (dzS (μ 1 1)))
  have hs : MS [1, 10, 11] σ (z_u2 (z_u2 (z_u2 (z_u2 σ 1 7 (dzS (μ 1 1))) 10 q (rem8 (doS (dzS (μ 1 1))))) 1 7 (dzS (dzS (μ 1 1)))) 11 q (rem8 (doS (dzS (dzS (μ 1 1)))))) := (((MS.rf.u2 (by decide)).u2 (by decide)).u2 (by decide)).u2 (by decide)
  have he : ∀ k, k ≠ 1 → k < 7 ∨ 19 ≤ k → drR (μ 1) k = μ 1 k := fun k h1 h2 => by rw [ed, upd_at, upd_at, upd_at, if_neg (by omega), if_neg (by omega), if_neg (by omega)]
  have hp : ∀ p w, pO (drR (μ 1)) p w = pO (μ 1) p w := fun p w => he _ (by omega) (by omega)
  refine h.put hs (by decide) (h.kkin hs (by decide) (he 2 (by decide) (by decide)) (fun p w _ _ => hp p w)) (h.ktx0 hs (by decide) (by decide) (fun k a _ => he k (by omega) (by omega))) (h.ktx1 hs (by decide) (by decide) (fun k a _ => he k (by omega) (by omega))) ⟨fun k hk => ?_, fun k hk => ?_⟩ (h.kcr hs (by decide) (by decide) (he 0 (by decide) (by decide)) (he 2 (by decide) (by decide)) (he 3 (by decide) (by decide)) (he 4 (by decide) (by decide)) (fun p _ => hp p 4)) (h.ktp hs (by decide) (by decide) (he 5 (by decide) (by decide)) (fun k a _ => he k (by omega) (by omega))) (h.kwa hs (by decide) (by decide) (he 6 (by decide) (by decide)) (fun k a _ => he k (by omega) (by omega))) (vxE (he 5 (by decide) (by decide)) (he 6 (by decide) (by decide)) (fun k a _ => he k (by omega) (by omega)) h.vx) ?_
  · show z_u2 (z_u2 (z_u2 (z_u2 σ 1 7 (dzS (μ 1 1))) 10 q (rem8 (doS (dzS (μ 1 1))))) 1 7 (dzS (dzS (μ 1 1)))) 11 q (rem8 (doS (dzS (dzS (μ 1 1))))) 10 k = _ ∧ z_u2 (z_u2 (z_u2 (z_u2 σ 1 7 (dzS (μ 1 1))) 10 q (rem8 (doS (dzS (μ 1 1))))) 1 7 (dzS (dzS (μ 1 1)))) 11 q (rem8 (doS (dzS (dzS (μ 1 1))))) 11 k = _
    rw [u2_o (by decide), u2_o (by decide), u2_at, u2_o (by decide), u2_at, u2_o (by decide), u2_o (by decide), u2_o (by decide), ed, upd_at, upd_at, upd_at, upd_at, upd_at, upd_at]
    by_cases z : k = q
    · subst z; simp
    · rw [if_neg (by omega), if_neg (by omega), if_neg (by omega), if_neg (by omega), if_neg (by omega), if_neg (by omega), if_neg (by omega), if_neg (by omega)]; exact h.1.2.2.2.2.1 k hk
  · rw [ed, upd_at, upd_at, upd_at, upd_at, upd_at, upd_at]
    by_cases z : k = q
    · subst z; simp; exact ⟨⟨a, ha, ea⟩, b, hb, eb⟩
    · rw [if_neg (by omega), if_neg (by omega), if_neg (by omega), if_neg (by omega), if_neg (by omega), if_neg (by omega)]; exact h.2.1.2.2.2.1 k hk
  · rw [u2_o (by decide), u2_same, ed, upd_at, upd_at, upd_at, if_neg (by omega), if_neg (by omega), if_pos rfl]
theorem Rel.thk {σ τ μ : z_M} (h : Rel σ μ) (hs : MS [49, 50, 16, 20] σ τ) : Rel τ μ := h.gar hs (by decide) (by decide)
theorem cpT {σ s : z_M} {r : Rw} (h : CrsR σ 8 9 r) (h1 : ∀ k, k < 3 → s 49 k = σ 8 k) (h2 : ∀ k, k < 8 → s 50 k = σ 9 k) : CrsR s 49 50 r :=
  ⟨(h1 0 (by decide)).trans h.1, (h1 1 (by decide)).trans h.2.1, (h1 2 (by decide)).trans h.2.2.1, fun p hp => (h2 p hp).trans (h.2.2.2 p hp)⟩
theorem hun_at : ∀ q, q < 88 → ∀ d, d ≤ 40 → nI (d * 100 + q) / 100 = nI d ∧ nI (d * 100 + q) - nI (d * 100 + q) / 100 * 100 = nI q := by decide +kernel
theorem goN_n {r : Rw} (h : VM r) (k : Nat) : nP (goN k r) = nP r := eqK_nP (eqK_goN h k)
set_option maxHeartbeats 1000000 in
set_option maxRecDepth 10000 in
theorem kX9_years {l : Launch} {E : z_E} (σ : z_M) {μ : z_M} (hR : Rel σ μ) (n : Int32)  : z_C l E shC 6 yX9_years cX9_years 2 (some FieldType.int) [.ref (z_ad E 0), .int n] σ (z_Pi (fun rv σ' => rv = (aYears μ n).1 ∧ Rel σ' (aYears μ n).2)) := by
  refine z_intro iX9_years (Nat.le_of_ble_eq_true rfl) (fun K F => ?_)
  have hc : σ 2 0 = μ 1 2 := hR.1.1.1
  have hn : μ 1 2 = nI (nP (μ 1)) := hR.2.1.1.1
  have h8 : nP (μ 1) ≤ 8 := hR.n8
  refine z_iload_n F dX9_years_0 1 rfl 1 rfl ?_
  refine z_iconst F dX9_years_1 1 (by decide) 2 rfl ?_
  refine z_icmp_lt F dX9_years_2 11 (by decide) 5 rfl (fun h2 => ?_) (fun h2 => ?_)
  · skip
    refine z_aload_n F dX9_years_11 0 rfl 12 rfl ?_
    refine z_iconst F dX9_years_12 1 (by decide) 13 rfl ?_
    refine z_callVi F dX9_years_13 m_334 iX9_fail jX9_fail rfl zc8 rfl (kX9_fail σ (k := 1) (by decide) (by decide)) rfl (by decide) (Nat.le_of_ble_eq_true rfl) 16 rfl (fun r13 s13 c13 => ?_)
    refine z_ri F dX9_years_16 ?_
    obtain ⟨rfl, rfl⟩ := c13
    exact fin (by
      unfold aYears
      (repeat' split) <;> first | rfl | contradiction | (exfalso; simp only [Int32.lt_iff_toInt_lt, Int32.le_iff_toInt_le, ← Int32.toInt_inj, Int32.reduceToInt] at *; omega)) (hR.fail (by decide) (by decide))
  · skip
    refine z_iload_n F dX9_years_5 1 rfl 6 rfl ?_
    refine z_bipush F dX9_years_6 60 (by decide) 8 rfl ?_
    refine z_icmp_le F dX9_years_8 17 (by decide) 11 rfl (fun h8 => ?_) (fun h8 => ?_)
    · skip
      refine z_aload_n F dX9_years_17 0 rfl 18 rfl ?_
      refine z_getR F zc8 dX9_years_18 rfl 0 (by decide) (by decide) (.inl m_302) rfl (by decide) 21 rfl ?_
      refine z_getR F zc7 dX9_years_21 rfl 1 (by decide) (by decide) (.inr ⟨_, m_202⟩) rfl (by decide) 24 rfl ?_
      refine z_getI F zc0 dX9_years_24 rfl 0 (by decide) (by decide) (.inr ⟨_, m_146⟩) rfl 27 rfl ?_
      refine z_iload_n F dX9_years_27 1 rfl 28 rfl ?_
      refine z_iadd F dX9_years_28 29 rfl ?_
      refine z_sipush F dX9_years_29 9999 (by decide) 32 rfl ?_
      refine z_icmp_le F dX9_years_32 41 (by decide) 35 rfl (fun h32 => ?_) (fun h32 => ?_)
      · skip
        obtain ⟨k, hk, rfl⟩ : ∃ k, k < 61 ∧ n = nI k := isP_of (n := 61) ⟨by show 0 ≤ n; simp only [Int32.lt_iff_toInt_lt, Int32.le_iff_toInt_le, ← Int32.toInt_inj, Int32.reduceToInt] at *; omega, by show n < 61; simp only [Int32.lt_iff_toInt_lt, Int32.le_iff_toInt_le, ← Int32.toInt_inj, Int32.reduceToInt] at *; omega⟩ (by decide)
        have k31 : k < 2 ^ 31 := by omega
        obtain ⟨y, hy, ey⟩ := hR.vt.1
        have hyk : y + k ≤ 9999 := by
          have h32' := h32
          rw [show σ 8 0 = nI y from hR.crs.1.trans ey, nI_add] at h32'
          exact le_nI (show nI (y + k) ≤ nI 9999 from h32') (by omega) (by decide)
        refine z_aload_n F dX9_years_41 0 rfl 42 rfl ?_
        refine z_getR F zc8 dX9_years_42 rfl 0 (by decide) (by decide) (.inl m_302) rfl (by decide) 45 rfl ?_
        refine z_aload_n F dX9_years_45 0 rfl 46 rfl ?_
        refine z_getR F zc8 dX9_years_46 rfl 0 (by decide) (by decide) (.inl m_302) rfl (by decide) 49 rfl ?_
        refine z_getR F zc7 dX9_years_49 rfl 1 (by decide) (by decide) (.inr ⟨_, m_202⟩) rfl (by decide) 52 rfl ?_
        refine z_iload_n F dX9_years_52 1 rfl 53 rfl ?_
        refine z_callVv F dX9_years_53 m_654 iX8_passYears jX8_passYears rfl zc7 rfl (kX8_passYearsN σ (r := μ 1) hR.now hR.crs hR.vt (by decide) (n := k) (by omega)) rfl (by decide) (Nat.le_of_ble_eq_true rfl) 56 rfl (fun s53 c53 => ?_)
        have hR2 := hR.goN ey hyk (by omega) c53.1 c53.2
        refine z_aload_n F dX9_years_56 0 rfl 57 rfl ?_
        refine z_getR F zc8 dX9_years_57 rfl 0 (by decide) (by decide) (.inl m_302) rfl (by decide) 60 rfl ?_
        refine z_getR F zc7 dX9_years_60 rfl 1 (by decide) (by decide) (.inr ⟨_, m_202⟩) rfl (by decide) 63 rfl ?_
        refine z_callVp F dX9_years_63 m_671 iX0_seenTogether jX0_seenTogether rfl zc0 rfl (kX0_seenTogetherN s53 (s := sN (goN k (μ 1))) (by have := hR2.crs.sn hR2.vt hR2.vk; rw [up_same] at this; exact this) (fun q => by have := sN_lt hR2.vt hR2.vk q; rw [up_same] at this; exact this.2.1)) rfl (by decide) (Nat.le_of_ble_eq_true rfl) 66 rfl ?_
        refine z_ri F dX9_years_66 ?_
        rw [all_8 (show nP (goN k (μ 1)) ≤ 8 by rw [goN_n hR.2.1.2.2.2.1]; exact hR.n8)]
        refine fin (m := z_up μ 1 (goN k (μ 1))) ?_ hR2
        unfold aYears
        rw [if_pos ⟨by simp only [Int32.lt_iff_toInt_lt, Int32.le_iff_toInt_le, ← Int32.toInt_inj, Int32.reduceToInt] at *; omega, by simp only [Int32.lt_iff_toInt_lt, Int32.le_iff_toInt_le, ← Int32.toInt_inj, Int32.reduceToInt] at *; omega⟩, if_pos (by rw [← hR.crs.1]; exact h32), nI_clamp k31]
      · skip
        refine z_aload_n F dX9_years_35 0 rfl 36 rfl ?_
        refine z_iconst F dX9_years_36 3 (by decide) 37 rfl ?_
        refine z_callVi F dX9_years_37 m_334 iX9_fail jX9_fail rfl zc8 rfl (kX9_fail σ (k := 3) (by decide) (by decide)) rfl (by decide) (Nat.le_of_ble_eq_true rfl) 40 rfl (fun r37 s37 c37 => ?_)
        refine z_ri F dX9_years_40 ?_
        have h32' := h32
        rw [hR.crs.1] at h32'
        obtain ⟨rfl, rfl⟩ := c37
        exact fin (by
          unfold aYears
          (repeat' split) <;> first | rfl | contradiction | (exfalso; simp only [Int32.lt_iff_toInt_lt, Int32.le_iff_toInt_le, ← Int32.toInt_inj, Int32.reduceToInt] at *; omega)) (hR.fail (by decide) (by decide))
    · skip
      refine z_aload_n F dX9_years_11 0 rfl 12 rfl ?_
      refine z_iconst F dX9_years_12 1 (by decide) 13 rfl ?_
      refine z_callVi F dX9_years_13 m_334 iX9_fail jX9_fail rfl zc8 rfl (kX9_fail σ (k := 1) (by decide) (by decide)) rfl (by decide) (Nat.le_of_ble_eq_true rfl) 16 rfl (fun r13 s13 c13 => ?_)
      refine z_ri F dX9_years_16 ?_
      obtain ⟨rfl, rfl⟩ := c13
      exact fin (by
        unfold aYears
        (repeat' split) <;> first | rfl | contradiction | (exfalso; simp only [Int32.lt_iff_toInt_lt, Int32.le_iff_toInt_le, ← Int32.toInt_inj, Int32.reduceToInt] at *; omega)) (hR.fail (by decide) (by decide))
set_option maxHeartbeats 1000000 in
set_option maxRecDepth 10000 in
theorem kX9_loose {l : Launch} {E : z_E} (σ : z_M) {μ : z_M} (hR : Rel σ μ) (n : Int32)  : z_C l E shC 6 yX9_loose cX9_loose 3 (some FieldType.int) [.ref (z_ad E 0), .int n] σ (z_Pi (fun rv σ' => rv = (aLoose μ n).1 ∧ Rel σ' (aLoose μ n).2)) := by
  refine z_intro iX9_loose (Nat.le_of_ble_eq_true rfl) (fun K F => ?_)
  have hc : σ 2 0 = μ 1 2 := hR.1.1.1
  have hn : μ 1 2 = nI (nP (μ 1)) := hR.2.1.1.1
  have h8 : nP (μ 1) ≤ 8 := hR.n8
  have loop43 : ∀ (f : Nat) (y k i : Nat) (τ : z_M) (_ : k < i + f) (_ : i ≤ k) (_ : k < 31) (_ : y + k ≤ 9999) (_ : 1 ≤ k) (_ : Rel τ (z_up μ 1 (looN i (μ 1)))) (_ : looN i (μ 1) 0 = nI (y + i)) (_ : aLoose μ (nI k) = (nI (allN (looN k (μ 1))), z_up μ 1 (looN k (μ 1)))), z_X l K E shC 6 3 (z_Pi (fun rv σ' => rv = (aLoose μ (nI k)).1 ∧ Rel σ' (aLoose μ (nI k)).2)) 43 [(0, .ref (z_ad E 0)), (1, .int (nI k)), (2, .int (nI i))] [] τ := by
    intro f
    induction f with
    | zero =>
      intro y k i τ hf hik hk31 hyk hk1 hRi ey eop
      omega
    | succ f ih =>
      intro y k i τ hf hik hk31 hyk hk1 hRi ey eop
      refine z_iload_n F dX9_loose_43 2 rfl 44 rfl ?_
      refine z_iload_n F dX9_loose_44 1 rfl 45 rfl ?_
      refine z_icmp_ge F dX9_loose_45 76 (by decide) 48 rfl (fun h45 => ?_) (fun h45 => ?_)
      · skip
        have hik2 : i = k := by have := le_nI h45 (by omega) (by omega); omega
        subst hik2
        refine z_aload_n F dX9_loose_76 0 rfl 77 rfl ?_
        refine z_getR F zc8 dX9_loose_77 rfl 0 (by decide) (by decide) (.inl m_302) rfl (by decide) 80 rfl ?_
        refine z_getR F zc7 dX9_loose_80 rfl 1 (by decide) (by decide) (.inr ⟨_, m_202⟩) rfl (by decide) 83 rfl ?_
        refine z_callVp F dX9_loose_83 m_671 iX0_seenTogether jX0_seenTogether rfl zc0 rfl (kX0_seenTogetherN τ (s := sN (looN i (μ 1))) (by have := hRi.crs.sn hRi.vt hRi.vk; rw [up_same] at this; exact this) (fun q => by have := sN_lt hRi.vt hRi.vk q; rw [up_same] at this; exact this.2.1)) rfl (by decide) (Nat.le_of_ble_eq_true rfl) 86 rfl ?_
        refine z_ri F dX9_loose_86 ?_
        rw [show sumS (fun p => pcN (sN (looN i (μ 1)) p)) 8 = allN (looN i (μ 1)) from all_8 (by have := hRi.n8; rw [up_same] at this; exact this)]
        exact fin eop hRi
      · skip
        have hik2 : i < k := nle_nI h45 (by omega) (by omega)
        have hRd := hRi.draw
        rw [up_same, up_up] at hRd
        have ey1 : (z_up μ 1 (looN i (μ 1))) 1 0 = nI (y + i) := by rw [up_same]; exact ey
        refine z_aload_n F dX9_loose_48 0 rfl 49 rfl ?_
        refine z_getR F zc8 dX9_loose_49 rfl 0 (by decide) (by decide) (.inl m_302) rfl (by decide) 52 rfl ?_
        refine z_callVu F dX9_loose_52 m_685 iX8_drawMeeting jX8_drawMeeting rfl zc7 rfl (kX8_drawMeeting τ (r := looN i (μ 1)) ⟨y + i, by omega, ey⟩ (by have := hRi.crs.1; rw [up_same] at this; exact this)) rfl (by decide) (Nat.le_of_ble_eq_true rfl) 55 rfl ?_
        have edr : drR (looN i (μ 1)) 0 = nI (y + i) := by
          have hq : ((looN i (μ 1)) 0).toNatClampNeg % 6 < 6 := Nat.mod_lt _ (by decide)
          unfold drR; rw [upd_at, upd_at, upd_at, if_neg (by omega), if_neg (by omega), if_neg (by decide)]; exact ey
        refine z_aload_n F dX9_loose_55 0 rfl 56 rfl ?_
        refine z_getR F zc8 dX9_loose_56 rfl 0 (by decide) (by decide) (.inl m_302) rfl (by decide) 59 rfl ?_
        refine z_aload_n F dX9_loose_59 0 rfl 60 rfl ?_
        refine z_getR F zc8 dX9_loose_60 rfl 0 (by decide) (by decide) (.inl m_302) rfl (by decide) 63 rfl ?_
        refine z_getR F zc7 dX9_loose_63 rfl 1 (by decide) (by decide) (.inr ⟨_, m_202⟩) rfl (by decide) 66 rfl ?_
        refine z_iconst F dX9_loose_66 1 (by decide) 67 rfl ?_
        refine z_callVv F dX9_loose_67 m_654 iX8_passYears jX8_passYears rfl zc7 rfl (kX8_passYearsN _ (r := drR (looN i (μ 1))) (by have := hRd.now; rw [up_same] at this; exact this) (by have := hRd.crs; rw [up_same] at this; exact this) (by have := hRd.vt; rw [up_same] at this; exact this) (by decide) (n := 1) (by decide)) rfl (by decide) (Nat.le_of_ble_eq_true rfl) 70 rfl (fun s67 c67 => ?_)
        refine z_iinc F dX9_loose_70 2 rfl 1 (by decide) [(0, _), (1, _), (2, _)] rfl (by decide) 73 rfl ?_
        refine z_goto F dX9_loose_73 43 (by decide) ?_
        have hR3 := hRd.goN (y := y + i) (n := 1) (by rw [up_same]; exact edr) (by omega) (by decide) c67.1 (by rw [up_same]; exact c67.2)
        rw [up_same, up_up] at hR3
        rw [nI_1]
        refine ih y k (i + 1) s67 (by omega) (by omega) hk31 hyk hk1 hR3 ?_ eop
        show goS (drR (looN i (μ 1))) 0 = _
        unfold goS
        rw [goM_0, edr, nI_1]; rfl
  refine z_iload_n F dX9_loose_0 1 rfl 1 rfl ?_
  refine z_iconst F dX9_loose_1 1 (by decide) 2 rfl ?_
  refine z_icmp_lt F dX9_loose_2 11 (by decide) 5 rfl (fun h2 => ?_) (fun h2 => ?_)
  · skip
    refine z_aload_n F dX9_loose_11 0 rfl 12 rfl ?_
    refine z_iconst F dX9_loose_12 1 (by decide) 13 rfl ?_
    refine z_callVi F dX9_loose_13 m_334 iX9_fail jX9_fail rfl zc8 rfl (kX9_fail σ (k := 1) (by decide) (by decide)) rfl (by decide) (Nat.le_of_ble_eq_true rfl) 16 rfl (fun r13 s13 c13 => ?_)
    refine z_ri F dX9_loose_16 ?_
    obtain ⟨rfl, rfl⟩ := c13
    exact fin (by
      unfold aLoose
      (repeat' split) <;> first | rfl | contradiction | (exfalso; simp only [Int32.lt_iff_toInt_lt, Int32.le_iff_toInt_le, ← Int32.toInt_inj, Int32.reduceToInt] at *; omega)) (hR.fail (by decide) (by decide))
  · skip
    refine z_iload_n F dX9_loose_5 1 rfl 6 rfl ?_
    refine z_bipush F dX9_loose_6 30 (by decide) 8 rfl ?_
    refine z_icmp_le F dX9_loose_8 17 (by decide) 11 rfl (fun h8 => ?_) (fun h8 => ?_)
    · skip
      refine z_aload_n F dX9_loose_17 0 rfl 18 rfl ?_
      refine z_getR F zc8 dX9_loose_18 rfl 0 (by decide) (by decide) (.inl m_302) rfl (by decide) 21 rfl ?_
      refine z_getR F zc7 dX9_loose_21 rfl 1 (by decide) (by decide) (.inr ⟨_, m_202⟩) rfl (by decide) 24 rfl ?_
      refine z_getI F zc0 dX9_loose_24 rfl 0 (by decide) (by decide) (.inr ⟨_, m_146⟩) rfl 27 rfl ?_
      refine z_iload_n F dX9_loose_27 1 rfl 28 rfl ?_
      refine z_iadd F dX9_loose_28 29 rfl ?_
      refine z_sipush F dX9_loose_29 9999 (by decide) 32 rfl ?_
      refine z_icmp_le F dX9_loose_32 41 (by decide) 35 rfl (fun h32 => ?_) (fun h32 => ?_)
      · skip
        obtain ⟨k, hk, rfl⟩ : ∃ k, k < 31 ∧ n = nI k := isP_of (n := 31) ⟨by show 0 ≤ n; simp only [Int32.lt_iff_toInt_lt, Int32.le_iff_toInt_le, ← Int32.toInt_inj, Int32.reduceToInt] at *; omega, by show n < 31; simp only [Int32.lt_iff_toInt_lt, Int32.le_iff_toInt_le, ← Int32.toInt_inj, Int32.reduceToInt] at *; omega⟩ (by decide)
        have k31 : k < 2 ^ 31 := by omega
        obtain ⟨y, hy, ey⟩ := hR.vt.1
        have hyk : y + k ≤ 9999 := by
          have h32' := h32
          rw [show σ 8 0 = nI y from hR.crs.1.trans ey, nI_add] at h32'
          exact le_nI (show nI (y + k) ≤ nI 9999 from h32') (by omega) (by decide)
        refine z_iconst F dX9_loose_41 0 (by decide) 42 rfl ?_
        refine z_istore_n F dX9_loose_42 [(0, _), (1, _), (2, _)] rfl (by decide) 43 rfl ?_
        have hk1 : 1 ≤ k := by
          rcases Nat.eq_zero_or_pos k with z | z
          · subst z; exact absurd (show nI 0 < 1 by decide) h2
          · exact z
        exact loop43 61 y k 0 σ (by omega) (by omega) hk hyk hk1 (by show Rel σ (z_up μ 1 (μ 1)); rw [up_id]; exact hR) ey (by
          unfold aLoose
          rw [if_pos ⟨by simp only [Int32.lt_iff_toInt_lt, Int32.le_iff_toInt_le, ← Int32.toInt_inj, Int32.reduceToInt] at *; omega, by simp only [Int32.lt_iff_toInt_lt, Int32.le_iff_toInt_le, ← Int32.toInt_inj, Int32.reduceToInt] at *; omega⟩, if_pos (by rw [← hR.crs.1]; exact h32), nI_clamp k31])
      · skip
        refine z_aload_n F dX9_loose_35 0 rfl 36 rfl ?_
        refine z_iconst F dX9_loose_36 3 (by decide) 37 rfl ?_
        refine z_callVi F dX9_loose_37 m_334 iX9_fail jX9_fail rfl zc8 rfl (kX9_fail σ (k := 3) (by decide) (by decide)) rfl (by decide) (Nat.le_of_ble_eq_true rfl) 40 rfl (fun r37 s37 c37 => ?_)
        refine z_ri F dX9_loose_40 ?_
        have h32' := h32
        rw [hR.crs.1] at h32'
        obtain ⟨rfl, rfl⟩ := c37
        exact fin (by
          unfold aLoose
          (repeat' split) <;> first | rfl | contradiction | (exfalso; simp only [Int32.lt_iff_toInt_lt, Int32.le_iff_toInt_le, ← Int32.toInt_inj, Int32.reduceToInt] at *; omega)) (hR.fail (by decide) (by decide))
    · skip
      refine z_aload_n F dX9_loose_11 0 rfl 12 rfl ?_
      refine z_iconst F dX9_loose_12 1 (by decide) 13 rfl ?_
      refine z_callVi F dX9_loose_13 m_334 iX9_fail jX9_fail rfl zc8 rfl (kX9_fail σ (k := 1) (by decide) (by decide)) rfl (by decide) (Nat.le_of_ble_eq_true rfl) 16 rfl (fun r13 s13 c13 => ?_)
      refine z_ri F dX9_loose_16 ?_
      obtain ⟨rfl, rfl⟩ := c13
      exact fin (by
        unfold aLoose
        (repeat' split) <;> first | rfl | contradiction | (exfalso; simp only [Int32.lt_iff_toInt_lt, Int32.le_iff_toInt_le, ← Int32.toInt_inj, Int32.reduceToInt] at *; omega)) (hR.fail (by decide) (by decide))
set_option maxHeartbeats 400000 in
set_option maxRecDepth 10000 in
theorem kX9_then {l : Launch} {E : z_E} (σ : z_M) {μ : z_M} (hR : Rel σ μ) (x : Int32) (n : Int32)  : z_C l E shC 6 yX9_then cX9_then 3 (some FieldType.int) [.ref (z_ad E 0), .int x, .int n] σ (z_Pi (fun rv σ' => rv = (aThen μ x n).1 ∧ Rel σ' (aThen μ x n).2)) := by
  refine z_intro iX9_then (Nat.le_of_ble_eq_true rfl) (fun K F => ?_)
  have hc : σ 2 0 = μ 1 2 := hR.1.1.1
  have hn : μ 1 2 = nI (nP (μ 1)) := hR.2.1.1.1
  have h8 : nP (μ 1) ≤ 8 := hR.n8
  refine z_aload_n F dX9_then_0 0 rfl 1 rfl ?_
  refine z_getR F zc8 dX9_then_1 rfl 0 (by decide) (by decide) (.inl m_302) rfl (by decide) 4 rfl ?_
  refine z_getR F zc7 dX9_then_4 rfl 0 (by decide) (by decide) (.inr ⟨_, m_200⟩) rfl (by decide) 7 rfl ?_
  refine z_iload_n F dX9_then_7 1 rfl 8 rfl ?_
  refine z_callVp F dX9_then_8 m_370 iX1_has jX1_has rfl zc1 rfl (kX1_has σ _) rfl (by decide) (Nat.le_of_ble_eq_true rfl) 11 rfl ?_
  refine z_if_eq F dX9_then_11 24 (by decide) 14 rfl (fun h11 => ?_) (fun h11 => ?_)
  · skip
    have h11 := bI0.mp h11
    refine z_aload_n F dX9_then_24 0 rfl 25 rfl ?_
    refine z_iconst F dX9_then_25 1 (by decide) 26 rfl ?_
    refine z_callVi F dX9_then_26 m_334 iX9_fail jX9_fail rfl zc8 rfl (kX9_fail σ (k := 1) (by decide) (by decide)) rfl (by decide) (Nat.le_of_ble_eq_true rfl) 29 rfl (fun r26 s26 c26 => ?_)
    refine z_ri F dX9_then_29 ?_
    obtain ⟨rfl, rfl⟩ := c26
    exact fin (by
      unfold aThen
      (repeat' split) <;> first | rfl | contradiction | (exfalso; simp only [Int32.lt_iff_toInt_lt, Int32.le_iff_toInt_le, ← Int32.toInt_inj, Int32.reduceToInt] at *; omega)) (hR.fail (by decide) (by decide))
  · skip
    have h11 := bI1.mp h11
    refine z_iload_n F dX9_then_14 2 rfl 15 rfl ?_
    refine z_if_lt F dX9_then_15 24 (by decide) 18 rfl (fun h15 => ?_) (fun h15 => ?_)
    · skip
      refine z_aload_n F dX9_then_24 0 rfl 25 rfl ?_
      refine z_iconst F dX9_then_25 1 (by decide) 26 rfl ?_
      refine z_callVi F dX9_then_26 m_334 iX9_fail jX9_fail rfl zc8 rfl (kX9_fail σ (k := 1) (by decide) (by decide)) rfl (by decide) (Nat.le_of_ble_eq_true rfl) 29 rfl (fun r26 s26 c26 => ?_)
      refine z_ri F dX9_then_29 ?_
      obtain ⟨rfl, rfl⟩ := c26
      exact fin (by
        unfold aThen
        (repeat' split) <;> first | rfl | contradiction | (exfalso; simp only [Int32.lt_iff_toInt_lt, Int32.le_iff_toInt_le, ← Int32.toInt_inj, Int32.reduceToInt] at *; omega)) (hR.fail (by decide) (by decide))
    · skip
      refine z_iload_n F dX9_then_18 2 rfl 19 rfl ?_
      refine z_bipush F dX9_then_19 60 (by decide) 21 rfl ?_
      refine z_icmp_le F dX9_then_21 30 (by decide) 24 rfl (fun h21 => ?_) (fun h21 => ?_)
      · skip
        obtain ⟨i, hi, rfl⟩ := isP_of (n := nP (μ 1)) (hn ▸ hc ▸ h11) (by omega)
        have i31 : i < 2 ^ 31 := by omega
        obtain ⟨k, hk, rfl⟩ : ∃ k, k < 61 ∧ n = nI k := isP_of (n := 61) ⟨by show 0 ≤ n; simp only [Int32.lt_iff_toInt_lt, Int32.le_iff_toInt_le, ← Int32.toInt_inj, Int32.reduceToInt] at *; omega, by show n < 61; simp only [Int32.lt_iff_toInt_lt, Int32.le_iff_toInt_le, ← Int32.toInt_inj, Int32.reduceToInt] at *; omega⟩ (by decide)
        have k31 : k < 2 ^ 31 := by omega
        refine z_aload_n F dX9_then_30 0 rfl 31 rfl ?_
        refine z_getR F zc8 dX9_then_31 rfl 2 (by decide) (by decide) (.inl m_304) rfl (by decide) 34 rfl ?_
        refine z_aload_n F dX9_then_34 0 rfl 35 rfl ?_
        refine z_getR F zc8 dX9_then_35 rfl 0 (by decide) (by decide) (.inl m_302) rfl (by decide) 38 rfl ?_
        refine z_getR F zc7 dX9_then_38 rfl 1 (by decide) (by decide) (.inr ⟨_, m_202⟩) rfl (by decide) 41 rfl ?_
        refine z_callVv F dX9_then_41 m_706 iX0_copy jX0_copy rfl zc0 rfl (kX0_copyT σ) rfl (by decide) (Nat.le_of_ble_eq_true rfl) 44 rfl (fun s41 c41 => ?_)
        have hR1 := hR.thk (c41.1.sub (by decide))
        refine z_aload_n F dX9_then_44 0 rfl 45 rfl ?_
        refine z_getR F zc8 dX9_then_45 rfl 0 (by decide) (by decide) (.inl m_302) rfl (by decide) 48 rfl ?_
        refine z_aload_n F dX9_then_48 0 rfl 49 rfl ?_
        refine z_getR F zc8 dX9_then_49 rfl 2 (by decide) (by decide) (.inl m_304) rfl (by decide) 52 rfl ?_
        refine z_iload_n F dX9_then_52 2 rfl 53 rfl ?_
        refine z_callVv F dX9_then_53 m_654 iX8_passYears jX8_passYears rfl zc7 rfl (kX8_passYearsT s41 (r := μ 1) hR1.now (cpT hR.crs c41.2.1 c41.2.2) hR.vt (by decide) (n := k) (by omega)) rfl (by decide) (Nat.le_of_ble_eq_true rfl) 56 rfl (fun s53 c53 => ?_)
        have hR2 := hR1.thk (c53.1.sub (by decide))
        refine z_aload_n F dX9_then_56 0 rfl 57 rfl ?_
        refine z_getR F zc8 dX9_then_57 rfl 2 (by decide) (by decide) (.inl m_304) rfl (by decide) 60 rfl ?_
        refine z_getR F zc0 dX9_then_60 rfl 3 (by decide) (by decide) (.inr ⟨_, m_154⟩) rfl (by decide) 63 rfl ?_
        refine z_iload_n F dX9_then_63 1 rfl 64 rfl ?_
        refine z_iald F dX9_then_64 rfl (vp_in_nI (by omega) (by decide)) 65 rfl ?_
        rw [nI_clamp i31]
        refine z_ri F dX9_then_65 ?_
        rw [c53.2.2.2.2 i (by omega), goN_n hR.2.1.2.2.2.1, if_pos hi]
        exact fin (by
          unfold aThen
          simp only [nI_clamp i31, nI_clamp k31]
          (repeat' split) <;> first | rfl | contradiction | (exfalso; simp only [Int32.lt_iff_toInt_lt, Int32.le_iff_toInt_le, ← Int32.toInt_inj, Int32.reduceToInt] at *; omega)) hR2
      · skip
        refine z_aload_n F dX9_then_24 0 rfl 25 rfl ?_
        refine z_iconst F dX9_then_25 1 (by decide) 26 rfl ?_
        refine z_callVi F dX9_then_26 m_334 iX9_fail jX9_fail rfl zc8 rfl (kX9_fail σ (k := 1) (by decide) (by decide)) rfl (by decide) (Nat.le_of_ble_eq_true rfl) 29 rfl (fun r26 s26 c26 => ?_)
        refine z_ri F dX9_then_29 ?_
        obtain ⟨rfl, rfl⟩ := c26
        exact fin (by
          unfold aThen
          (repeat' split) <;> first | rfl | contradiction | (exfalso; simp only [Int32.lt_iff_toInt_lt, Int32.le_iff_toInt_le, ← Int32.toInt_inj, Int32.reduceToInt] at *; omega)) (hR.fail (by decide) (by decide))
set_option maxHeartbeats 400000 in
set_option maxRecDepth 10000 in
theorem kX9_soonest {l : Launch} {E : z_E} (σ : z_M) {μ : z_M} (hR : Rel σ μ) (x : Int32) (y : Int32)  : z_C l E shC 6 yX9_soonest cX9_soonest 4 (some FieldType.int) [.ref (z_ad E 0), .int x, .int y] σ (z_Pi (fun rv σ' => rv = (aSoonest μ x y).1 ∧ Rel σ' (aSoonest μ x y).2)) := by
  refine z_intro iX9_soonest (Nat.le_of_ble_eq_true rfl) (fun K F => ?_)
  have hc : σ 2 0 = μ 1 2 := hR.1.1.1
  have hn : μ 1 2 = nI (nP (μ 1)) := hR.2.1.1.1
  have h8 : nP (μ 1) ≤ 8 := hR.n8
  have loop50 : ∀ (f : Nat) (i j k : Nat) (τ : z_M) (_ : 61 < k + f) (_ : k ≤ 61) (_ : i < nP (μ 1)) (_ : j < nP (μ 1)) (_ : MS [49, 50, 16, 20] σ τ) (_ : CrsR τ 49 50 (goN k (μ 1))) (_ : ∀ m, m < k → (sN (goN m (μ 1)) i).testBit j = false) (_ : soonN (μ 1) i j = 61 → aSoonest μ (nI i) (nI j) = er μ 2) (_ : ¬ soonN (μ 1) i j = 61 → aSoonest μ (nI i) (nI j) = (nI (soonN (μ 1) i j), μ)), z_X l K E shC 6 4 (z_Pi (fun rv σ' => rv = (aSoonest μ (nI i) (nI j)).1 ∧ Rel σ' (aSoonest μ (nI i) (nI j)).2)) 50 [(0, .ref (z_ad E 0)), (1, .int (nI i)), (2, .int (nI j)), (3, .int (nI k))] [] τ := by
    intro f
    induction f with
    | zero =>
      intro i j k τ hf hk hi hj hs hC hno e1 e2
      omega
    | succ f ih =>
      intro i j k τ hf hk hi hj hs hC hno e1 e2
      have i31 : i < 2 ^ 31 := by omega
      have hVM := hR.2.1.2.2.2.1
      have hT := VT_goN hR.vt (by decide) hR.vk hVM k (by omega)
      have hVK := eqK_VK (eqK_goN hVM k) hR.vk
      have hR1 := hR.thk hs
      have hsn := sN_lt hT hVK i
      refine z_iload_n F dX9_soonest_50 3 rfl 51 rfl ?_
      refine z_bipush F dX9_soonest_51 60 (by decide) 53 rfl ?_
      refine z_icmp_gt F dX9_soonest_53 92 (by decide) 56 rfl (fun h53 => ?_) (fun h53 => ?_)
      · skip
        have hk61 : k = 61 := by have := nI_ltI (a := 60) (b := k) (by decide) (by omega) |>.mp h53; omega
        subst hk61
        refine z_aload_n F dX9_soonest_92 0 rfl 93 rfl ?_
        refine z_iconst F dX9_soonest_93 2 (by decide) 94 rfl ?_
        refine z_callVi F dX9_soonest_94 m_334 iX9_fail jX9_fail rfl zc8 rfl (kX9_fail τ (k := 2) (by decide) (by decide)) rfl (by decide) (Nat.le_of_ble_eq_true rfl) 97 rfl (fun r94 s94 c94 => ?_)
        refine z_ri F dX9_soonest_97 ?_
        have es : soonN (μ 1) i j = 61 := fstF_none hno
        obtain ⟨rfl, rfl⟩ := c94
        exact fin (e1 es) (hR1.fail (by decide) (by decide))
      · skip
        have hk60 : k < 61 := by
          rcases Nat.lt_or_ge k 61 with z | z
          · exact z
          · exact absurd (nI_lt (a := 60) (by omega) (by omega)) h53
        refine z_aload_n F dX9_soonest_56 0 rfl 57 rfl ?_
        refine z_getR F zc8 dX9_soonest_57 rfl 2 (by decide) (by decide) (.inl m_304) rfl (by decide) 60 rfl ?_
        refine z_getR F zc0 dX9_soonest_60 rfl 3 (by decide) (by decide) (.inr ⟨_, m_154⟩) rfl (by decide) 63 rfl ?_
        refine z_iload_n F dX9_soonest_63 1 rfl 64 rfl ?_
        refine z_iald F dX9_soonest_64 rfl (vp_in_nI (by omega) (by decide)) 65 rfl ?_
        rw [nI_clamp i31, show τ 50 i = nI (sN (goN k (μ 1)) i) from (hC.sn hT hVK) i (by omega)]
        refine z_iload_n F dX9_soonest_65 2 rfl 66 rfl ?_
        refine z_callSp F dX9_soonest_66 m_715 iX9_isIn m_716 rfl (kX9_isIn τ _ _) rfl (by decide) (Nat.le_of_ble_eq_true rfl) 69 rfl ?_
        rw [show (bI (¬ (nI (sN (goN k (μ 1)) i) >>> (nI j &&& 31)) &&& 1 = 0)) = bI ((sN (goN k (μ 1)) i).testBit j = true) from by rw [bit_nI _ hsn.2.1 j (by omega)]; congr 1; cases (sN (goN k (μ 1)) i).testBit j <;> decide]
        refine z_if_eq F dX9_soonest_69 74 (by decide) 72 rfl (fun h69 => ?_) (fun h69 => ?_)
        · skip
          have h69 := bI0.mp h69
          refine z_aload_n F dX9_soonest_74 0 rfl 75 rfl ?_
          refine z_getR F zc8 dX9_soonest_75 rfl 0 (by decide) (by decide) (.inl m_302) rfl (by decide) 78 rfl ?_
          refine z_aload_n F dX9_soonest_78 0 rfl 79 rfl ?_
          refine z_getR F zc8 dX9_soonest_79 rfl 2 (by decide) (by decide) (.inl m_304) rfl (by decide) 82 rfl ?_
          refine z_iconst F dX9_soonest_82 1 (by decide) 83 rfl ?_
          refine z_callVv F dX9_soonest_83 m_654 iX8_passYears jX8_passYears rfl zc7 rfl (kX8_passYearsT τ (r := goN k (μ 1)) (eqK_Now (eqK_goN hVM k) hR1.now) hC hT (by omega) (n := 1) (by decide)) rfl (by decide) (Nat.le_of_ble_eq_true rfl) 86 rfl (fun s83 c83 => ?_)
          refine z_iinc F dX9_soonest_86 3 rfl 1 (by decide) [(0, _), (1, _), (2, _), (3, _)] rfl (by decide) 89 rfl ?_
          refine z_goto F dX9_soonest_89 50 (by decide) ?_
          rw [nI_1]
          exact ih i j (k + 1) s83 (by omega) (by omega) hi hj (hs.tr (c83.1.sub (by decide))) c83.2 (fun m hm => by
            rcases Nat.lt_or_ge m k with z | z
            · exact hno m z
            · have : m = k := by omega
              subst this; simpa using h69) e1 e2
        · skip
          have h69 := bI1.mp h69
          refine z_iload_n F dX9_soonest_72 3 rfl 73 rfl ?_
          refine z_ri F dX9_soonest_73 ?_
          have es : soonN (μ 1) i j = k := fstF_is hk60 h69 hno
          exact fin (by rw [e2 (by omega), es]) hR1
  refine z_aload_n F dX9_soonest_0 0 rfl 1 rfl ?_
  refine z_getR F zc8 dX9_soonest_1 rfl 0 (by decide) (by decide) (.inl m_302) rfl (by decide) 4 rfl ?_
  refine z_getR F zc7 dX9_soonest_4 rfl 0 (by decide) (by decide) (.inr ⟨_, m_200⟩) rfl (by decide) 7 rfl ?_
  refine z_iload_n F dX9_soonest_7 1 rfl 8 rfl ?_
  refine z_callVp F dX9_soonest_8 m_370 iX1_has jX1_has rfl zc1 rfl (kX1_has σ _) rfl (by decide) (Nat.le_of_ble_eq_true rfl) 11 rfl ?_
  refine z_if_eq F dX9_soonest_11 28 (by decide) 14 rfl (fun h11 => ?_) (fun h11 => ?_)
  · skip
    have h11 := bI0.mp h11
    refine z_aload_n F dX9_soonest_28 0 rfl 29 rfl ?_
    refine z_iconst F dX9_soonest_29 1 (by decide) 30 rfl ?_
    refine z_callVi F dX9_soonest_30 m_334 iX9_fail jX9_fail rfl zc8 rfl (kX9_fail σ (k := 1) (by decide) (by decide)) rfl (by decide) (Nat.le_of_ble_eq_true rfl) 33 rfl (fun r30 s30 c30 => ?_)
    refine z_ri F dX9_soonest_33 ?_
    obtain ⟨rfl, rfl⟩ := c30
    exact fin (by
      unfold aSoonest
      (repeat' split) <;> first | rfl | contradiction | (exfalso; simp only [Int32.lt_iff_toInt_lt, Int32.le_iff_toInt_le, ← Int32.toInt_inj, Int32.reduceToInt] at *; omega)) (hR.fail (by decide) (by decide))
  · skip
    have h11 := bI1.mp h11
    refine z_aload_n F dX9_soonest_14 0 rfl 15 rfl ?_
    refine z_getR F zc8 dX9_soonest_15 rfl 0 (by decide) (by decide) (.inl m_302) rfl (by decide) 18 rfl ?_
    refine z_getR F zc7 dX9_soonest_18 rfl 0 (by decide) (by decide) (.inr ⟨_, m_200⟩) rfl (by decide) 21 rfl ?_
    refine z_iload_n F dX9_soonest_21 2 rfl 22 rfl ?_
    refine z_callVp F dX9_soonest_22 m_370 iX1_has jX1_has rfl zc1 rfl (kX1_has σ _) rfl (by decide) (Nat.le_of_ble_eq_true rfl) 25 rfl ?_
    refine z_if_ne F dX9_soonest_25 34 (by decide) 28 rfl (fun h25 => ?_) (fun h25 => ?_)
    · skip
      have h25 := bI1.mp h25
      obtain ⟨i, hi, rfl⟩ := isP_of (n := nP (μ 1)) (hn ▸ hc ▸ h11) (by omega)
      have i31 : i < 2 ^ 31 := by omega
      obtain ⟨j, hj, rfl⟩ := isP_of (n := nP (μ 1)) (hn ▸ hc ▸ h25) (by omega)
      have j31 : j < 2 ^ 31 := by omega
      refine z_aload_n F dX9_soonest_34 0 rfl 35 rfl ?_
      refine z_getR F zc8 dX9_soonest_35 rfl 2 (by decide) (by decide) (.inl m_304) rfl (by decide) 38 rfl ?_
      refine z_aload_n F dX9_soonest_38 0 rfl 39 rfl ?_
      refine z_getR F zc8 dX9_soonest_39 rfl 0 (by decide) (by decide) (.inl m_302) rfl (by decide) 42 rfl ?_
      refine z_getR F zc7 dX9_soonest_42 rfl 1 (by decide) (by decide) (.inr ⟨_, m_202⟩) rfl (by decide) 45 rfl ?_
      refine z_callVv F dX9_soonest_45 m_706 iX0_copy jX0_copy rfl zc0 rfl (kX0_copyT σ) rfl (by decide) (Nat.le_of_ble_eq_true rfl) 48 rfl (fun s45 c45 => ?_)
      refine z_iconst F dX9_soonest_48 0 (by decide) 49 rfl ?_
      refine z_istore_n F dX9_soonest_49 [(0, _), (1, _), (2, _), (3, _)] rfl (by decide) 50 rfl ?_
      exact loop50 62 i j 0 s45 (by omega) (by omega) hi hj (c45.1.sub (by decide)) (cpT hR.crs c45.2.1 c45.2.2) (fun k hk => by omega) (fun hk => (by
        unfold aSoonest
        simp only [nI_clamp i31, nI_clamp j31]
        (repeat' split) <;> first | rfl | contradiction | (exfalso; simp only [Int32.lt_iff_toInt_lt, Int32.le_iff_toInt_le, ← Int32.toInt_inj, Int32.reduceToInt] at *; omega))) (fun hk => (by
        unfold aSoonest
        simp only [nI_clamp i31, nI_clamp j31]
        (repeat' split) <;> first | rfl | contradiction | (exfalso; simp only [Int32.lt_iff_toInt_lt, Int32.le_iff_toInt_le, ← Int32.toInt_inj, Int32.reduceToInt] at *; omega)))
    · skip
      have h25 := bI0.mp h25
      refine z_aload_n F dX9_soonest_28 0 rfl 29 rfl ?_
      refine z_iconst F dX9_soonest_29 1 (by decide) 30 rfl ?_
      refine z_callVi F dX9_soonest_30 m_334 iX9_fail jX9_fail rfl zc8 rfl (kX9_fail σ (k := 1) (by decide) (by decide)) rfl (by decide) (Nat.le_of_ble_eq_true rfl) 33 rfl (fun r30 s30 c30 => ?_)
      refine z_ri F dX9_soonest_33 ?_
      obtain ⟨rfl, rfl⟩ := c30
      exact fin (by
        unfold aSoonest
        (repeat' split) <;> first | rfl | contradiction | (exfalso; simp only [Int32.lt_iff_toInt_lt, Int32.le_iff_toInt_le, ← Int32.toInt_inj, Int32.reduceToInt] at *; omega)) (hR.fail (by decide) (by decide))
set_option maxHeartbeats 400000 in
set_option maxRecDepth 10000 in
theorem kX9_seers {l : Launch} {E : z_E} (σ : z_M) {μ : z_M} (hR : Rel σ μ) (x : Int32)  : z_C l E shC 2 yX9_seers cX9_seers 2 (some FieldType.int) [.ref (z_ad E 0), .int x] σ (z_Pi (fun rv σ' => rv = (aSeers μ x).1 ∧ Rel σ' (aSeers μ x).2)) := by
  refine z_intro iX9_seers (Nat.le_of_ble_eq_true rfl) (fun K F => ?_)
  have hc : σ 2 0 = μ 1 2 := hR.1.1.1
  have hn : μ 1 2 = nI (nP (μ 1)) := hR.2.1.1.1
  have h8 : nP (μ 1) ≤ 8 := hR.n8
  refine z_aload_n F dX9_seers_0 0 rfl 1 rfl ?_
  refine z_getR F zc8 dX9_seers_1 rfl 0 (by decide) (by decide) (.inl m_302) rfl (by decide) 4 rfl ?_
  refine z_getR F zc7 dX9_seers_4 rfl 0 (by decide) (by decide) (.inr ⟨_, m_200⟩) rfl (by decide) 7 rfl ?_
  refine z_iload_n F dX9_seers_7 1 rfl 8 rfl ?_
  refine z_callVp F dX9_seers_8 m_370 iX1_has jX1_has rfl zc1 rfl (kX1_has σ _) rfl (by decide) (Nat.le_of_ble_eq_true rfl) 11 rfl ?_
  refine z_if_ne F dX9_seers_11 20 (by decide) 14 rfl (fun h11 => ?_) (fun h11 => ?_)
  · skip
    have h11 := bI1.mp h11
    obtain ⟨i, hi, rfl⟩ := isP_of (n := nP (μ 1)) (hn ▸ hc ▸ h11) (by omega)
    have i31 : i < 2 ^ 31 := by omega
    refine z_aload_n F dX9_seers_20 0 rfl 21 rfl ?_
    refine z_getR F zc8 dX9_seers_21 rfl 0 (by decide) (by decide) (.inl m_302) rfl (by decide) 24 rfl ?_
    refine z_getR F zc7 dX9_seers_24 rfl 1 (by decide) (by decide) (.inr ⟨_, m_202⟩) rfl (by decide) 27 rfl ?_
    refine z_iload_n F dX9_seers_27 1 rfl 28 rfl ?_
    refine z_callVp F dX9_seers_28 m_735 iX0_seersOf jX0_seersOf rfl zc0 rfl (kX0_seersOfN σ (s := sN (μ 1)) (hR.crs.sn hR.vt hR.vk) (fun q => (sN_lt hR.vt hR.vk q).2.1) (q := i) (by omega)) rfl (by decide) (Nat.le_of_ble_eq_true rfl) 31 rfl ?_
    refine z_ri F dX9_seers_31 ?_
    rw [seers_8 h8]
    exact fin (by
      unfold aSeers
      simp only [nI_clamp i31]
      (repeat' split) <;> first | rfl | contradiction | (exfalso; simp only [Int32.lt_iff_toInt_lt, Int32.le_iff_toInt_le, ← Int32.toInt_inj, Int32.reduceToInt] at *; omega)) hR
  · skip
    have h11 := bI0.mp h11
    refine z_aload_n F dX9_seers_14 0 rfl 15 rfl ?_
    refine z_iconst F dX9_seers_15 1 (by decide) 16 rfl ?_
    refine z_callVi F dX9_seers_16 m_334 iX9_fail jX9_fail rfl zc8 rfl (kX9_fail σ (k := 1) (by decide) (by decide)) rfl (by decide) (Nat.le_of_ble_eq_true rfl) 19 rfl (fun r16 s16 c16 => ?_)
    refine z_ri F dX9_seers_19 ?_
    obtain ⟨rfl, rfl⟩ := c16
    exact fin (by
      unfold aSeers
      (repeat' split) <;> first | rfl | contradiction | (exfalso; simp only [Int32.lt_iff_toInt_lt, Int32.le_iff_toInt_le, ← Int32.toInt_inj, Int32.reduceToInt] at *; omega)) (hR.fail (by decide) (by decide))
set_option maxHeartbeats 400000 in
set_option maxRecDepth 10000 in
theorem kX9_orderFor {l : Launch} {E : z_E} (σ : z_M) {μ : z_M} (hR : Rel σ μ) (x : Int32) (n : Int32)  : z_C l E shC 6 yX9_orderFor cX9_orderFor 5 (some FieldType.int) [.ref (z_ad E 0), .int x, .int n] σ (z_Pi (fun rv σ' => rv = (aOrderFor μ x n).1 ∧ Rel σ' (aOrderFor μ x n).2)) := by
  refine z_intro iX9_orderFor (Nat.le_of_ble_eq_true rfl) (fun K F => ?_)
  have hc : σ 2 0 = μ 1 2 := hR.1.1.1
  have hn : μ 1 2 = nI (nP (μ 1)) := hR.2.1.1.1
  have h8 : nP (μ 1) ≤ 8 := hR.n8
  have loop45 : ∀ (f : Nat) (i k v : Nat) (τ : z_M) (_ : 41 < v + f) (_ : v ≤ 41) (_ : i < nP (μ 1)) (_ : k < 41) (_ : MS [49, 50, 16, 20] σ τ) (_ : ∀ m, m < v → decide (seersN (goN k (upd (μ 1) 4 (nI m))) i = seersN (μ 1) i) = false) (_ : ordN (μ 1) i k = 41 → aOrderFor μ (nI i) (nI k) = er μ 2) (_ : ¬ ordN (μ 1) i k = 41 → aOrderFor μ (nI i) (nI k) = (nI (ordN (μ 1) i k), μ)), z_X l K E shC 6 5 (z_Pi (fun rv σ' => rv = (aOrderFor μ (nI i) (nI k)).1 ∧ Rel σ' (aOrderFor μ (nI i) (nI k)).2)) 45 [(0, .ref (z_ad E 0)), (1, .int (nI i)), (2, .int (nI k)), (3, .int (nI (seersN (μ 1) i))), (4, .int (nI v))] [] τ := by
    intro f
    induction f with
    | zero =>
      intro i k v τ hf hv hi hk hs hno e1 e2
      omega
    | succ f ih =>
      intro i k v τ hf hv hi hk hs hno e1 e2
      have i31 : i < 2 ^ 31 := by omega
      have hVM := hR.2.1.2.2.2.1
      have hR1 := hR.thk hs
      have he : eqK (μ 1) (upd (μ 1) 4 (nI v)) := eqK_upd (Or.inr (Or.inr rfl))
      have hVK := eqK_VK he hR.vk
      have hVM2 := eqK_VM he hVM
      refine z_iload F dX9_orderFor_45 4 rfl 47 rfl ?_
      refine z_bipush F dX9_orderFor_47 40 (by decide) 49 rfl ?_
      refine z_icmp_gt F dX9_orderFor_49 108 (by decide) 52 rfl (fun h49 => ?_) (fun h49 => ?_)
      · skip
        have hv41 : v = 41 := by have := nI_ltI (a := 40) (b := v) (by decide) (by omega) |>.mp h49; omega
        subst hv41
        refine z_aload_n F dX9_orderFor_108 0 rfl 109 rfl ?_
        refine z_iconst F dX9_orderFor_109 2 (by decide) 110 rfl ?_
        refine z_callVi F dX9_orderFor_110 m_334 iX9_fail jX9_fail rfl zc8 rfl (kX9_fail τ (k := 2) (by decide) (by decide)) rfl (by decide) (Nat.le_of_ble_eq_true rfl) 113 rfl (fun r110 s110 c110 => ?_)
        refine z_ri F dX9_orderFor_113 ?_
        have es : ordN (μ 1) i k = 41 := fstF_none hno
        obtain ⟨rfl, rfl⟩ := c110
        exact fin (e1 es) (hR1.fail (by decide) (by decide))
      · skip
        have hv40 : v < 41 := by
          rcases Nat.lt_or_ge v 41 with z | z
          · exact z
          · exact absurd (nI_lt (a := 40) (by omega) (by omega)) h49
        have hT : VT 9999 (upd (μ 1) 4 (nI v)) := by
          have ht := hR.vt
          refine ⟨ht.1, ht.2.1, ⟨v, by omega, by rw [upd_at, if_pos rfl]⟩, fun p hp => ?_⟩
          rw [show nP (upd (μ 1) 4 (nI v)) = nP (μ 1) from rfl] at hp ⊢
          rw [pO_hi (Or.inl (by decide)) (by omega) (by decide)]; exact ht.2.2.2 p hp
        refine z_aload_n F dX9_orderFor_52 0 rfl 53 rfl ?_
        refine z_getR F zc8 dX9_orderFor_53 rfl 2 (by decide) (by decide) (.inl m_304) rfl (by decide) 56 rfl ?_
        refine z_aload_n F dX9_orderFor_56 0 rfl 57 rfl ?_
        refine z_getR F zc8 dX9_orderFor_57 rfl 0 (by decide) (by decide) (.inl m_302) rfl (by decide) 60 rfl ?_
        refine z_getR F zc7 dX9_orderFor_60 rfl 1 (by decide) (by decide) (.inr ⟨_, m_202⟩) rfl (by decide) 63 rfl ?_
        refine z_callVv F dX9_orderFor_63 m_706 iX0_copy jX0_copy rfl zc0 rfl (kX0_copyT τ) rfl (by decide) (Nat.le_of_ble_eq_true rfl) 66 rfl (fun s63 c63 => ?_)
        have hC1 := cpT hR1.crs c63.2.1 c63.2.2
        refine z_aload_n F dX9_orderFor_66 0 rfl 67 rfl ?_
        refine z_getR F zc8 dX9_orderFor_67 rfl 2 (by decide) (by decide) (.inl m_304) rfl (by decide) 70 rfl ?_
        refine z_iload F dX9_orderFor_70 4 rfl 72 rfl ?_
        refine z_putI F zc0 dX9_orderFor_72 rfl 2 (by decide) (by decide) (.inr ⟨_, m_152⟩) rfl rfl z_pI 75 rfl ?_
        have hms : MS [49, 50, 16, 20] σ (z_u2 s63 49 2 (nI v)) := (hs.tr (c63.1.sub (by decide))).u2 (by decide)
        have hR2 := hR.thk hms
        have hC2 : CrsR (z_u2 s63 49 2 (nI v)) 49 50 (upd (μ 1) 4 (nI v)) := by
          refine ⟨?_, ?_, ?_, fun p hp => ?_⟩
          · rw [u2_k (by decide), upd_at, if_neg (by decide)]; exact hC1.1
          · rw [u2_k (by decide), upd_at, if_neg (by decide)]; exact hC1.2.1
          · rw [u2_same, upd_at, if_pos rfl]
          · rw [u2_o (by decide), show nP (upd (μ 1) 4 (nI v)) = nP (μ 1) from rfl, pO_hi (Or.inl (by decide)) hp (by decide)]; exact hC1.2.2.2 p hp
        refine z_aload_n F dX9_orderFor_75 0 rfl 76 rfl ?_
        refine z_getR F zc8 dX9_orderFor_76 rfl 0 (by decide) (by decide) (.inl m_302) rfl (by decide) 79 rfl ?_
        refine z_aload_n F dX9_orderFor_79 0 rfl 80 rfl ?_
        refine z_getR F zc8 dX9_orderFor_80 rfl 2 (by decide) (by decide) (.inl m_304) rfl (by decide) 83 rfl ?_
        refine z_iload_n F dX9_orderFor_83 2 rfl 84 rfl ?_
        refine z_callVv F dX9_orderFor_84 m_654 iX8_passYears jX8_passYears rfl zc7 rfl (kX8_passYearsT _ (r := upd (μ 1) 4 (nI v)) (eqK_Now he hR2.now) hC2 hT (by decide) (n := k) (by omega)) rfl (by decide) (Nat.le_of_ble_eq_true rfl) 87 rfl (fun s84 c84 => ?_)
        have hT3 := VT_goN hT (by decide) hVK hVM2 k (by omega)
        have hVK3 := eqK_VK (eqK_goN hVM2 k) hVK
        have hms3 := hms.tr (c84.1.sub (show ∀ o, o ∈ [49, 50, 16, 20] → o ∈ [49, 50, 16, 20] by decide))
        have hR3 := hR.thk hms3
        have n8 : nP (goN k (upd (μ 1) 4 (nI v))) ≤ 8 := by rw [goN_n hVM2]; exact hR.n8
        refine z_aload_n F dX9_orderFor_87 0 rfl 88 rfl ?_
        refine z_getR F zc8 dX9_orderFor_88 rfl 2 (by decide) (by decide) (.inl m_304) rfl (by decide) 91 rfl ?_
        refine z_iload_n F dX9_orderFor_91 1 rfl 92 rfl ?_
        refine z_callVp F dX9_orderFor_92 m_735 iX0_seersOf jX0_seersOf rfl zc0 rfl (kX0_seersOfT s84 (s := sN (goN k (upd (μ 1) 4 (nI v)))) (c84.2.sn hT3 hVK3) (fun q => (sN_lt hT3 hVK3 q).2.1) (q := i) (by omega)) rfl (by decide) (Nat.le_of_ble_eq_true rfl) 95 rfl ?_
        rw [seers_8 n8]
        refine z_iload_n F dX9_orderFor_95 3 rfl 96 rfl ?_
        have s1 : seersN (goN k (upd (μ 1) 4 (nI v))) i < 256 := Nat.lt_of_lt_of_le (setOf_lt _ _) (Nat.pow_le_pow_right (by decide) n8)
        have s2 : seersN (μ 1) i < 256 := Nat.lt_of_lt_of_le (setOf_lt _ _) (Nat.pow_le_pow_right (by decide) hR.n8)
        refine z_icmp_ne F dX9_orderFor_96 102 (by decide) 99 rfl (fun h96 => ?_) (fun h96 => ?_)
        · skip
          refine z_iinc F dX9_orderFor_102 4 rfl 1 (by decide) [(0, _), (1, _), (2, _), (3, _), (4, _)] rfl (by decide) 105 rfl ?_
          refine z_goto F dX9_orderFor_105 45 (by decide) ?_
          rw [nI_1]
          exact ih i k (v + 1) s84 (by omega) (by omega) hi hk hms3 (fun m hm => by
            rcases Nat.lt_or_ge m v with z | z
            · exact hno m z
            · have : m = v := by omega
              subst this; exact decide_eq_false (fun z => h96 (by rw [z]))) e1 e2
        · skip
          refine z_iload F dX9_orderFor_99 4 rfl 101 rfl ?_
          refine z_ri F dX9_orderFor_101 ?_
          have es : ordN (μ 1) i k = v := fstF_is hv40 (decide_eq_true (eq_nI h96 (by omega) (by omega))) hno
          exact fin (by rw [e2 (by omega), es]) hR3
  refine z_aload_n F dX9_orderFor_0 0 rfl 1 rfl ?_
  refine z_getR F zc8 dX9_orderFor_1 rfl 0 (by decide) (by decide) (.inl m_302) rfl (by decide) 4 rfl ?_
  refine z_getR F zc7 dX9_orderFor_4 rfl 0 (by decide) (by decide) (.inr ⟨_, m_200⟩) rfl (by decide) 7 rfl ?_
  refine z_iload_n F dX9_orderFor_7 1 rfl 8 rfl ?_
  refine z_callVp F dX9_orderFor_8 m_370 iX1_has jX1_has rfl zc1 rfl (kX1_has σ _) rfl (by decide) (Nat.le_of_ble_eq_true rfl) 11 rfl ?_
  refine z_if_eq F dX9_orderFor_11 24 (by decide) 14 rfl (fun h11 => ?_) (fun h11 => ?_)
  · skip
    have h11 := bI0.mp h11
    refine z_aload_n F dX9_orderFor_24 0 rfl 25 rfl ?_
    refine z_iconst F dX9_orderFor_25 1 (by decide) 26 rfl ?_
    refine z_callVi F dX9_orderFor_26 m_334 iX9_fail jX9_fail rfl zc8 rfl (kX9_fail σ (k := 1) (by decide) (by decide)) rfl (by decide) (Nat.le_of_ble_eq_true rfl) 29 rfl (fun r26 s26 c26 => ?_)
    refine z_ri F dX9_orderFor_29 ?_
    obtain ⟨rfl, rfl⟩ := c26
    exact fin (by
      unfold aOrderFor
      (repeat' split) <;> first | rfl | contradiction | (exfalso; simp only [Int32.lt_iff_toInt_lt, Int32.le_iff_toInt_le, ← Int32.toInt_inj, Int32.reduceToInt] at *; omega)) (hR.fail (by decide) (by decide))
  · skip
    have h11 := bI1.mp h11
    refine z_iload_n F dX9_orderFor_14 2 rfl 15 rfl ?_
    refine z_if_lt F dX9_orderFor_15 24 (by decide) 18 rfl (fun h15 => ?_) (fun h15 => ?_)
    · skip
      refine z_aload_n F dX9_orderFor_24 0 rfl 25 rfl ?_
      refine z_iconst F dX9_orderFor_25 1 (by decide) 26 rfl ?_
      refine z_callVi F dX9_orderFor_26 m_334 iX9_fail jX9_fail rfl zc8 rfl (kX9_fail σ (k := 1) (by decide) (by decide)) rfl (by decide) (Nat.le_of_ble_eq_true rfl) 29 rfl (fun r26 s26 c26 => ?_)
      refine z_ri F dX9_orderFor_29 ?_
      obtain ⟨rfl, rfl⟩ := c26
      exact fin (by
        unfold aOrderFor
        (repeat' split) <;> first | rfl | contradiction | (exfalso; simp only [Int32.lt_iff_toInt_lt, Int32.le_iff_toInt_le, ← Int32.toInt_inj, Int32.reduceToInt] at *; omega)) (hR.fail (by decide) (by decide))
    · skip
      refine z_iload_n F dX9_orderFor_18 2 rfl 19 rfl ?_
      refine z_bipush F dX9_orderFor_19 40 (by decide) 21 rfl ?_
      refine z_icmp_le F dX9_orderFor_21 30 (by decide) 24 rfl (fun h21 => ?_) (fun h21 => ?_)
      · skip
        obtain ⟨i, hi, rfl⟩ := isP_of (n := nP (μ 1)) (hn ▸ hc ▸ h11) (by omega)
        have i31 : i < 2 ^ 31 := by omega
        obtain ⟨k, hk, rfl⟩ : ∃ k, k < 41 ∧ n = nI k := isP_of (n := 41) ⟨by show 0 ≤ n; simp only [Int32.lt_iff_toInt_lt, Int32.le_iff_toInt_le, ← Int32.toInt_inj, Int32.reduceToInt] at *; omega, by show n < 41; simp only [Int32.lt_iff_toInt_lt, Int32.le_iff_toInt_le, ← Int32.toInt_inj, Int32.reduceToInt] at *; omega⟩ (by decide)
        have k31 : k < 2 ^ 31 := by omega
        refine z_aload_n F dX9_orderFor_30 0 rfl 31 rfl ?_
        refine z_getR F zc8 dX9_orderFor_31 rfl 0 (by decide) (by decide) (.inl m_302) rfl (by decide) 34 rfl ?_
        refine z_getR F zc7 dX9_orderFor_34 rfl 1 (by decide) (by decide) (.inr ⟨_, m_202⟩) rfl (by decide) 37 rfl ?_
        refine z_iload_n F dX9_orderFor_37 1 rfl 38 rfl ?_
        refine z_callVp F dX9_orderFor_38 m_735 iX0_seersOf jX0_seersOf rfl zc0 rfl (kX0_seersOfN σ (s := sN (μ 1)) (hR.crs.sn hR.vt hR.vk) (fun q => (sN_lt hR.vt hR.vk q).2.1) (q := i) (by omega)) rfl (by decide) (Nat.le_of_ble_eq_true rfl) 41 rfl ?_
        rw [seers_8 h8]
        refine z_istore_n F dX9_orderFor_41 [(0, _), (1, _), (2, _), (3, _)] rfl (by decide) 42 rfl ?_
        refine z_iconst F dX9_orderFor_42 0 (by decide) 43 rfl ?_
        refine z_istore F dX9_orderFor_43 [(0, _), (1, _), (2, _), (3, _), (4, _)] rfl (by decide) 45 rfl ?_
        exact loop45 42 i k 0 σ (by omega) (by omega) hi hk MS.rf (fun m hm => by omega) (fun hk => (by
          unfold aOrderFor
          simp only [nI_clamp i31, nI_clamp k31]
          (repeat' split) <;> first | rfl | contradiction | (exfalso; simp only [Int32.lt_iff_toInt_lt, Int32.le_iff_toInt_le, ← Int32.toInt_inj, Int32.reduceToInt] at *; omega))) (fun hk => (by
          unfold aOrderFor
          simp only [nI_clamp i31, nI_clamp k31]
          (repeat' split) <;> first | rfl | contradiction | (exfalso; simp only [Int32.lt_iff_toInt_lt, Int32.le_iff_toInt_le, ← Int32.toInt_inj, Int32.reduceToInt] at *; omega)))
      · skip
        refine z_aload_n F dX9_orderFor_24 0 rfl 25 rfl ?_
        refine z_iconst F dX9_orderFor_25 1 (by decide) 26 rfl ?_
        refine z_callVi F dX9_orderFor_26 m_334 iX9_fail jX9_fail rfl zc8 rfl (kX9_fail σ (k := 1) (by decide) (by decide)) rfl (by decide) (Nat.le_of_ble_eq_true rfl) 29 rfl (fun r26 s26 c26 => ?_)
        refine z_ri F dX9_orderFor_29 ?_
        obtain ⟨rfl, rfl⟩ := c26
        exact fin (by
          unfold aOrderFor
          (repeat' split) <;> first | rfl | contradiction | (exfalso; simp only [Int32.lt_iff_toInt_lt, Int32.le_iff_toInt_le, ← Int32.toInt_inj, Int32.reduceToInt] at *; omega)) (hR.fail (by decide) (by decide))
set_option maxHeartbeats 400000 in
set_option maxRecDepth 10000 in
theorem kX9_match {l : Launch} {E : z_E} (σ : z_M) {μ : z_M} (hR : Rel σ μ) (x : Int32) (y : Int32) (w : Int32)  : z_C l E shC 3 yX9_match cX9_match 5 (some FieldType.int) [.ref (z_ad E 0), .int x, .int y, .int w] σ (z_Pi (fun rv σ' => rv = (aMatch μ x y w).1 ∧ Rel σ' (aMatch μ x y w).2)) := by
  refine z_intro iX9_match (Nat.le_of_ble_eq_true rfl) (fun K F => ?_)
  have hc : σ 2 0 = μ 1 2 := hR.1.1.1
  have hn : μ 1 2 = nI (nP (μ 1)) := hR.2.1.1.1
  have h8 : nP (μ 1) ≤ 8 := hR.n8
  refine z_aload_n F dX9_match_0 0 rfl 1 rfl ?_
  refine z_getR F zc8 dX9_match_1 rfl 0 (by decide) (by decide) (.inl m_302) rfl (by decide) 4 rfl ?_
  refine z_getR F zc7 dX9_match_4 rfl 0 (by decide) (by decide) (.inr ⟨_, m_200⟩) rfl (by decide) 7 rfl ?_
  refine z_iload_n F dX9_match_7 1 rfl 8 rfl ?_
  refine z_callVp F dX9_match_8 m_370 iX1_has jX1_has rfl zc1 rfl (kX1_has σ _) rfl (by decide) (Nat.le_of_ble_eq_true rfl) 11 rfl ?_
  refine z_if_eq F dX9_match_11 37 (by decide) 14 rfl (fun h11 => ?_) (fun h11 => ?_)
  · skip
    have h11 := bI0.mp h11
    refine z_aload_n F dX9_match_37 0 rfl 38 rfl ?_
    refine z_iconst F dX9_match_38 1 (by decide) 39 rfl ?_
    refine z_callVi F dX9_match_39 m_334 iX9_fail jX9_fail rfl zc8 rfl (kX9_fail σ (k := 1) (by decide) (by decide)) rfl (by decide) (Nat.le_of_ble_eq_true rfl) 42 rfl (fun r39 s39 c39 => ?_)
    refine z_ri F dX9_match_42 ?_
    obtain ⟨rfl, rfl⟩ := c39
    exact fin (by
      unfold aMatch
      (repeat' split) <;> first | rfl | contradiction | (exfalso; simp only [Int32.lt_iff_toInt_lt, Int32.le_iff_toInt_le, ← Int32.toInt_inj, Int32.reduceToInt] at *; omega)) (hR.fail (by decide) (by decide))
  · skip
    have h11 := bI1.mp h11
    refine z_aload_n F dX9_match_14 0 rfl 15 rfl ?_
    refine z_getR F zc8 dX9_match_15 rfl 0 (by decide) (by decide) (.inl m_302) rfl (by decide) 18 rfl ?_
    refine z_getR F zc7 dX9_match_18 rfl 0 (by decide) (by decide) (.inr ⟨_, m_200⟩) rfl (by decide) 21 rfl ?_
    refine z_iload_n F dX9_match_21 2 rfl 22 rfl ?_
    refine z_callVp F dX9_match_22 m_370 iX1_has jX1_has rfl zc1 rfl (kX1_has σ _) rfl (by decide) (Nat.le_of_ble_eq_true rfl) 25 rfl ?_
    refine z_if_eq F dX9_match_25 37 (by decide) 28 rfl (fun h25 => ?_) (fun h25 => ?_)
    · skip
      have h25 := bI0.mp h25
      refine z_aload_n F dX9_match_37 0 rfl 38 rfl ?_
      refine z_iconst F dX9_match_38 1 (by decide) 39 rfl ?_
      refine z_callVi F dX9_match_39 m_334 iX9_fail jX9_fail rfl zc8 rfl (kX9_fail σ (k := 1) (by decide) (by decide)) rfl (by decide) (Nat.le_of_ble_eq_true rfl) 42 rfl (fun r39 s39 c39 => ?_)
      refine z_ri F dX9_match_42 ?_
      obtain ⟨rfl, rfl⟩ := c39
      exact fin (by
        unfold aMatch
        (repeat' split) <;> first | rfl | contradiction | (exfalso; simp only [Int32.lt_iff_toInt_lt, Int32.le_iff_toInt_le, ← Int32.toInt_inj, Int32.reduceToInt] at *; omega)) (hR.fail (by decide) (by decide))
    · skip
      have h25 := bI1.mp h25
      refine z_iload_n F dX9_match_28 3 rfl 29 rfl ?_
      refine z_if_lt F dX9_match_29 37 (by decide) 32 rfl (fun h29 => ?_) (fun h29 => ?_)
      · skip
        refine z_aload_n F dX9_match_37 0 rfl 38 rfl ?_
        refine z_iconst F dX9_match_38 1 (by decide) 39 rfl ?_
        refine z_callVi F dX9_match_39 m_334 iX9_fail jX9_fail rfl zc8 rfl (kX9_fail σ (k := 1) (by decide) (by decide)) rfl (by decide) (Nat.le_of_ble_eq_true rfl) 42 rfl (fun r39 s39 c39 => ?_)
        refine z_ri F dX9_match_42 ?_
        obtain ⟨rfl, rfl⟩ := c39
        exact fin (by
          unfold aMatch
          (repeat' split) <;> first | rfl | contradiction | (exfalso; simp only [Int32.lt_iff_toInt_lt, Int32.le_iff_toInt_le, ← Int32.toInt_inj, Int32.reduceToInt] at *; omega)) (hR.fail (by decide) (by decide))
      · skip
        refine z_iload_n F dX9_match_32 3 rfl 33 rfl ?_
        refine z_iconst F dX9_match_33 1 (by decide) 34 rfl ?_
        refine z_icmp_le F dX9_match_34 43 (by decide) 37 rfl (fun h34 => ?_) (fun h34 => ?_)
        · skip
          obtain ⟨i, hi, rfl⟩ := isP_of (n := nP (μ 1)) (hn ▸ hc ▸ h11) (by omega)
          have i31 : i < 2 ^ 31 := by omega
          obtain ⟨j, hj, rfl⟩ := isP_of (n := nP (μ 1)) (hn ▸ hc ▸ h25) (by omega)
          have j31 : j < 2 ^ 31 := by omega
          obtain ⟨m1, m2, m3⟩ := mS_rng (μ 1) i j 64 (by decide)
          generalize hs : mS (μ 1) i j 64 = s at m1 m2 m3
          have hb : (if s.2 = 100 then (-1 : Int32) else nI (mV s)) = if s.2 = 100 then -1 else nI (s.1 * 100 + s.2) := by
            unfold mV; split <;> rfl
          refine z_aload_n F dX9_match_43 0 rfl 44 rfl ?_
          refine z_getR F zc8 dX9_match_44 rfl 0 (by decide) (by decide) (.inl m_302) rfl (by decide) 47 rfl ?_
          refine z_getR F zc7 dX9_match_47 rfl 0 (by decide) (by decide) (.inr ⟨_, m_200⟩) rfl (by decide) 50 rfl ?_
          refine z_iload_n F dX9_match_50 1 rfl 51 rfl ?_
          refine z_iload_n F dX9_match_51 2 rfl 52 rfl ?_
          refine z_callVp F dX9_match_52 m_722 iX1_bestMatch jX1_bestMatch rfl zc1 rfl (kX1_bestMatch σ (r := μ 1) hR.1.1 hR.vk hR.1.2.1 hi hj) rfl (by decide) (Nat.le_of_ble_eq_true rfl) 55 rfl ?_
          rw [hs, hb]
          refine z_istore F dX9_match_55 [(0, _), (1, _), (2, _), (3, _), (4, _)] rfl (by decide) 57 rfl ?_
          refine z_iload F dX9_match_57 4 rfl 59 rfl ?_
          refine z_if_ge F dX9_match_59 68 (by decide) 62 rfl (fun h59 => ?_) (fun h59 => ?_)
          · skip
            refine z_iload_n F dX9_match_68 3 rfl 69 rfl ?_
            refine z_if_ne F dX9_match_69 80 (by decide) 72 rfl (fun h69 => ?_) (fun h69 => ?_)
            · skip
              refine z_iload F dX9_match_80 4 rfl 82 rfl ?_
              refine z_bipush F dX9_match_82 100 (by decide) 84 rfl ?_
              refine z_idiv F dX9_match_84 (by decide) 85 rfl ?_
              refine z_ri F dX9_match_85 ?_
              have hne : ¬ s.2 = 100 := fun z => by rw [if_pos z] at h59; exact absurd h59 (by decide)
              have hs88 : s.2 < 88 := by omega
              rw [if_neg hne]
              refine fin (m := μ) ?_ hR
              unfold aMatch
              rw [nI_clamp i31, nI_clamp j31, if_pos ⟨⟨⟨h11.1, hc ▸ h11.2⟩, h25.1, hc ▸ h25.2⟩, by simp only [Int32.lt_iff_toInt_lt, Int32.le_iff_toInt_le, ← Int32.toInt_inj, Int32.reduceToInt] at *; omega, by simp only [Int32.lt_iff_toInt_lt, Int32.le_iff_toInt_le, ← Int32.toInt_inj, Int32.reduceToInt] at *; omega⟩, hs, if_neg hne, if_neg h69, (hun_at _ hs88 _ m2).1]
            · skip
              refine z_iload F dX9_match_72 4 rfl 74 rfl ?_
              refine z_bipush F dX9_match_74 100 (by decide) 76 rfl ?_
              refine z_irem F dX9_match_76 (by decide) 77 rfl ?_
              refine z_goto F dX9_match_77 85 (by decide) ?_
              refine z_ri F dX9_match_85 ?_
              have hne : ¬ s.2 = 100 := fun z => by rw [if_pos z] at h59; exact absurd h59 (by decide)
              have hs88 : s.2 < 88 := by omega
              rw [if_neg hne]
              refine fin (m := μ) ?_ hR
              unfold aMatch
              rw [nI_clamp i31, nI_clamp j31, if_pos ⟨⟨⟨h11.1, hc ▸ h11.2⟩, h25.1, hc ▸ h25.2⟩, by simp only [Int32.lt_iff_toInt_lt, Int32.le_iff_toInt_le, ← Int32.toInt_inj, Int32.reduceToInt] at *; omega, by simp only [Int32.lt_iff_toInt_lt, Int32.le_iff_toInt_le, ← Int32.toInt_inj, Int32.reduceToInt] at *; omega⟩, hs, if_neg hne, if_pos h69, (hun_at _ hs88 _ m2).2]
          · skip
            refine z_aload_n F dX9_match_62 0 rfl 63 rfl ?_
            refine z_iconst F dX9_match_63 2 (by decide) 64 rfl ?_
            refine z_callVi F dX9_match_64 m_334 iX9_fail jX9_fail rfl zc8 rfl (kX9_fail σ (k := 2) (by decide) (by decide)) rfl (by decide) (Nat.le_of_ble_eq_true rfl) 67 rfl (fun r64 s64 c64 => ?_)
            refine z_ri F dX9_match_67 ?_
            have hne : s.2 = 100 := by
              rcases Nat.decEq s.2 100 with z | z
              · exact absurd (by rw [if_neg z]; exact nI_pos' (by omega)) h59
              · exact z
            obtain ⟨rfl, rfl⟩ := c64
            refine fin ?_ (hR.fail (by decide) (by decide))
            unfold aMatch
            rw [nI_clamp i31, nI_clamp j31, if_pos ⟨⟨⟨h11.1, hc ▸ h11.2⟩, h25.1, hc ▸ h25.2⟩, by simp only [Int32.lt_iff_toInt_lt, Int32.le_iff_toInt_le, ← Int32.toInt_inj, Int32.reduceToInt] at *; omega, by simp only [Int32.lt_iff_toInt_lt, Int32.le_iff_toInt_le, ← Int32.toInt_inj, Int32.reduceToInt] at *; omega⟩, hs, if_pos hne]
            rfl
        · skip
          refine z_aload_n F dX9_match_37 0 rfl 38 rfl ?_
          refine z_iconst F dX9_match_38 1 (by decide) 39 rfl ?_
          refine z_callVi F dX9_match_39 m_334 iX9_fail jX9_fail rfl zc8 rfl (kX9_fail σ (k := 1) (by decide) (by decide)) rfl (by decide) (Nat.le_of_ble_eq_true rfl) 42 rfl (fun r39 s39 c39 => ?_)
          refine z_ri F dX9_match_42 ?_
          obtain ⟨rfl, rfl⟩ := c39
          exact fin (by
            unfold aMatch
            (repeat' split) <;> first | rfl | contradiction | (exfalso; simp only [Int32.lt_iff_toInt_lt, Int32.le_iff_toInt_le, ← Int32.toInt_inj, Int32.reduceToInt] at *; omega)) (hR.fail (by decide) (by decide))
