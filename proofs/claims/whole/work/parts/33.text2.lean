/-! the call text -/
def tbR (r : Rw) (i : Nat) : Int32 := if i < tN r then r (59 + i) else 0
def txtR (r : Rw) (u : Nat) (L : List (Int32 × Int32)) : Rw := fun j => if j = 143 + 121 * u then nI L.length else if 143 + 121 * u + 1 ≤ j ∧ j < 143 + 121 * u + 1 + L.length then (L.getD (j - (143 + 121 * u + 1)) (0, 0)).1 else if 143 + 121 * u + 61 ≤ j ∧ j < 143 + 121 * u + 61 + L.length then (L.getD (j - (143 + 121 * u + 61)) (0, 0)).2 else r j
def aText (μ : z_M) (u : Int32) : Op := if 0 ≤ u ∧ u < 2 then (if (topP (tbR (μ 1)) u.toNatClampNeg).2.2 = true ∧ (topP (tbR (μ 1)) u.toNatClampNeg).1 = tN (μ 1) then (1, z_up μ 1 (txtR (upd (μ 1) 5 0) u.toNatClampNeg (topP (tbR (μ 1)) u.toNatClampNeg).2.1)) else (-10 - nI (topP (tbR (μ 1)) u.toNatClampNeg).1, z_up μ 1 (upd (μ 1) 5 0))) else er μ 1
theorem tbR_T {r : Rw} (h : VX r) : Tb (tbR r) (tN r) := by
  refine ⟨fun i hi => if_neg (by omega), fun i => ?_⟩
  unfold tbR; split
  · rename_i z; exact h.2.2.1 i z
  · exact ⟨0, by decide, rfl⟩
theorem txt_out {r : Rw} {u : Nat} {L : List (Int32 × Int32)} (h60 : L.length ≤ 60) {j : Nat} (h : j < 143 + 121 * u ∨ 143 + 121 * u + 121 ≤ j) : txtR r u L j = r j := by
  unfold txtR; rw [if_neg (by omega), if_neg (by omega), if_neg (by omega)]
theorem txt_0 {r : Rw} {u : Nat} {L : List (Int32 × Int32)} : txtR r u L (143 + 121 * u) = nI L.length := if_pos rfl
theorem txt_1 {r : Rw} {u k : Nat} {L : List (Int32 × Int32)} (hk : k < L.length) : txtR r u L (143 + 121 * u + 1 + k) = (L.getD k (0, 0)).1 := by
  unfold txtR; rw [if_neg (by omega), if_pos (by omega), show 143 + 121 * u + 1 + k - (143 + 121 * u + 1) = k by omega]
theorem txt_2 {r : Rw} {u k : Nat} {L : List (Int32 × Int32)} (h60 : L.length ≤ 60) (hk : k < L.length) : txtR r u L (143 + 121 * u + 61 + k) = (L.getD k (0, 0)).2 := by
  unfold txtR; rw [if_neg (by omega), if_neg (by omega), if_pos (by omega), show 143 + 121 * u + 61 + k - (143 + 121 * u + 61) = k by omega]
theorem dp_take : ∀ (L : List (Int32 × Int32)) (d k : Nat), k < L.length → dpL d (L.take (k + 1)) = dpS (L.getD k (0, 0)).1 (dpL d (L.take k))
  | [], _, _, h => by simp at h
  | x :: t, d, 0, _ => by simp [dpL]
  | x :: t, d, k + 1, h => by
    show dpL (dpS x.1 d) (t.take (k + 1)) = dpS _ (dpL (dpS x.1 d) (t.take k))
    rw [dp_take t _ k (by simpa using h)]; rfl
theorem ok_take : ∀ (L : List (Int32 × Int32)) (d k : Nat), okL d L → k < L.length → opOk (L.getD k (0, 0)).1 (L.getD k (0, 0)).2 (dpL d (L.take k))
  | [], _, _, _, h => by simp at h
  | x :: t, d, 0, h, _ => h.1
  | x :: t, d, k + 1, h, hk => ok_take t _ k h.2 (by simpa using hk)
theorem txt_dp {r : Rw} {u : Nat} {L : List (Int32 × Int32)} : ∀ k, k ≤ L.length → dpR (txtR r u L) (143 + 121 * u) k = dpL 0 (L.take k)
  | 0, _ => by simp [dpR, dpL]
  | k + 1, hk => by
    show dpS (txtR r u L (143 + 121 * u + 1 + k)) (dpR (txtR r u L) (143 + 121 * u) k) = _
    rw [txt_dp k (by omega), txt_1 (by omega), dp_take L 0 k (by omega)]
theorem txt_VC {r : Rw} {u : Nat} {L : List (Int32 × Int32)} (h60 : L.length ≤ 60) (hs : stk L) : VC (txtR r u L) u := by
  have e : cL (txtR r u L) u = L.length := by unfold cL; rw [txt_0, nI_clamp (by omega)]
  unfold VC
  rw [e, txt_0]
  refine ⟨rfl, h60, fun k hk => ?_, fun _ => ?_⟩
  · rw [txt_1 hk, txt_2 h60 hk, txt_dp k (by omega)]; exact ok_take L 0 k (hs 0).1 hk
  · rw [txt_dp _ (Nat.le_refl _), List.take_length, (hs 0).2]; decide
theorem Rel.tclr {σ s μ : z_M} (h : Rel σ μ) (hs : MS [51, 52, 53] σ s) : Rel (z_u2 s 21 1 0) (z_up μ 1 (upd (μ 1) 5 0)) := by
  have hx := h.vx
  have et : tN (upd (μ 1) 5 0) = 0 := rfl
  have ew : wN (upd (μ 1) 5 0) = wN (μ 1) := rfl
  refine h.tape ((hs.sub (by decide)).u2 (by decide)) (fun k h1 _ => by rw [upd_at, if_neg h1]) ⟨u2_same, fun k hk => by rw [et] at hk; omega⟩ ⟨by rw [et]; rfl, by rw [et]; decide, fun k hk => by rw [et] at hk; omega, by rw [ew]; exact hx.2.2.2.1, by rw [ew]; exact hx.2.2.2.2⟩
theorem Rel.tset0 {τ μ : z_M} {L : List (Int32 × Int32)} (h : Rel τ μ) (h60 : L.length ≤ 60) (hs : stk L) (hc : ∀ k, k < L.length → τ 53 k = enc (L.getD k (0, 0)).1 (L.getD k (0, 0)).2) : Rel (z_up (z_u2 τ 14 1 (nI L.length)) 15 (va_cpy (τ 53) (τ 15) 0 0 L.length)) (z_up μ 1 (txtR (μ 1) 0 L)) := by
  have hms : MS [14, 15] τ (z_up (z_u2 τ 14 1 (nI L.length)) 15 (va_cpy (τ 53) (τ 15) 0 0 L.length)) := (MS.rf.u2 (by decide)).up (by decide)
  have hv : VC (txtR (μ 1) 0 L) 0 := txt_VC h60 hs
  have e : cL (txtR (μ 1) 0 L) 0 = L.length := by unfold cL; rw [txt_0, nI_clamp (by omega)]
  have hT : TxR (z_up (z_u2 τ 14 1 (nI L.length)) 15 (va_cpy (τ 53) (τ 15) 0 0 L.length)) 1 0 (txtR (μ 1) 0 L) := by
    refine ⟨?_, fun k hk => ?_⟩
    · rw [txt_0, up_o (by decide)]; exact u2_same
    · rw [e] at hk
      rw [txt_1 hk, txt_2 h60 hk, ← hc k hk]
      show z_up _ 15 _ 15 k = _
      rw [up_same, cp0 hk]
  exact h.txt hms (by decide) (fun k hk => txt_out h60 (by omega)) ⟨hT, hv⟩ (h.ktx1 hms (by decide) (by decide) (fun k a b => txt_out h60 (by omega)))
theorem Rel.tset1 {τ μ : z_M} {L : List (Int32 × Int32)} (h : Rel τ μ) (h60 : L.length ≤ 60) (hs : stk L) (hc : ∀ k, k < L.length → τ 53 k = enc (L.getD k (0, 0)).1 (L.getD k (0, 0)).2) : Rel (z_up (z_u2 τ 18 1 (nI L.length)) 19 (va_cpy (τ 53) (τ 19) 0 0 L.length)) (z_up μ 1 (txtR (μ 1) 1 L)) := by
  have hms : MS [18, 19] τ (z_up (z_u2 τ 18 1 (nI L.length)) 19 (va_cpy (τ 53) (τ 19) 0 0 L.length)) := (MS.rf.u2 (by decide)).up (by decide)
  have hv : VC (txtR (μ 1) 1 L) 1 := txt_VC h60 hs
  have e : cL (txtR (μ 1) 1 L) 1 = L.length := by unfold cL; rw [txt_0, nI_clamp (by omega)]
  have hT : TxR (z_up (z_u2 τ 18 1 (nI L.length)) 19 (va_cpy (τ 53) (τ 19) 0 0 L.length)) 1 1 (txtR (μ 1) 1 L) := by
    refine ⟨?_, fun k hk => ?_⟩
    · rw [txt_0, up_o (by decide)]; exact u2_same
    · rw [e] at hk
      rw [txt_1 hk, txt_2 h60 hk, ← hc k hk]
      show z_up _ 19 _ 19 k = _
      rw [up_same, cp0 hk]
  exact h.txt hms (by decide) (fun k hk => txt_out h60 (by omega)) (h.ktx0 hms (by decide) (by decide) (fun k a b => txt_out h60 (by omega))) ⟨hT, hv⟩
set_option maxHeartbeats 1000000 in
set_option maxRecDepth 10000 in
theorem kX9_text {l : Launch} {E : z_E} (σ : z_M) {μ : z_M} (hR : Rel σ μ) (u : Int32)  : z_C l E shC 56 yX9_text cX9_text 3 (some FieldType.int) [.ref (z_ad E 0), .int u] σ (z_Pi (fun rv σ' => rv = (aText μ u).1 ∧ Rel σ' (aText μ u).2)) := by
  refine z_intro iX9_text (Nat.le_of_ble_eq_true rfl) (fun K F => ?_)
  have hc : σ 2 0 = μ 1 2 := hR.1.1.1
  have hn : μ 1 2 = nI (nP (μ 1)) := hR.2.1.1.1
  have h8 : nP (μ 1) ≤ 8 := hR.n8
  refine z_iload_n F dX9_text_0 1 rfl 1 rfl ?_
  refine z_callSp F dX9_text_1 m_508 iX9_isUse m_509 rfl (kX9_isUse σ u) rfl (by decide) (Nat.le_of_ble_eq_true rfl) 4 rfl ?_
  refine z_if_ne F dX9_text_4 13 (by decide) 7 rfl (fun h4 => ?_) (fun h4 => ?_)
  · skip
    have h4 := bI1.mp h4
    obtain ⟨q, hq, rfl⟩ : ∃ q, q < 2 ∧ u = nI q := isP_of (n := 2) h4 (by decide)
    rcases (show q = 0 ∨ q = 1 by omega) with rfl | rfl
    · skip
      refine z_aload_n F dX9_text_13 0 rfl 14 rfl ?_
      refine z_getR F zc8 dX9_text_14 rfl 3 (by decide) (by decide) (.inl m_305) rfl (by decide) 17 rfl ?_
      refine z_iload_n F dX9_text_17 1 rfl 18 rfl ?_
      refine z_callVi F dX9_text_18 m_511 iX3_faultFor jX3_faultFor rfl zc2 rfl (kX3_faultFor σ (b := tbR (μ 1)) (n := tN (μ 1)) (u := 0) (tbR_T hR.vx) (by decide) ⟨hR.tap.1.trans hR.vx.1, hR.vx.2.1, fun k hk => (hR.tap.2 k hk).trans (if_pos hk).symm⟩) rfl (by decide) (Nat.le_of_ble_eq_true rfl) 21 rfl (fun r18 s18 c18 => ?_)
      have eop : aText μ (nI 0) = if (topP (tbR (μ 1)) 0).2.2 = true ∧ (topP (tbR (μ 1)) 0).1 = tN (μ 1) then (1, z_up μ 1 (txtR (upd (μ 1) 5 0) 0 (topP (tbR (μ 1)) 0).2.1)) else (-10 - nI (topP (tbR (μ 1)) 0).1, z_up μ 1 (upd (μ 1) 5 0)) := by
        unfold aText
        rw [if_pos (by decide), show (nI 0).toNatClampNeg = 0 from nI_clamp (by decide)]
      obtain ⟨rfl, m18, p18⟩ := c18
      have hx := hR.vx
      have hTb := tbR_T hx
      have hg := lev_gd hTb (unt_gd hTb (show 0 < 2 by decide) 5) 5 (by decide) 0 (by omega)
      have g2 : (topP (tbR (μ 1)) 0).1 ≤ tN (μ 1) := hg.2.1
      have g3 : (topP (tbR (μ 1)) 0).2.2 = true → 0 + (topP (tbR (μ 1)) 0).2.1.length ≤ (topP (tbR (μ 1)) 0).1 ∧ 1 ≤ (topP (tbR (μ 1)) 0).2.1.length ∧ stk (topP (tbR (μ 1)) 0).2.1 := hg.2.2
      have t60 := hx.2.1
      have hR2 := hR.tclr m18
      refine z_istore_n F dX9_text_21 [(0, _), (1, _), (2, _)] rfl (by decide) 22 rfl ?_
      refine z_aload_n F dX9_text_22 0 rfl 23 rfl ?_
      refine z_getR F zc8 dX9_text_23 rfl 0 (by decide) (by decide) (.inl m_302) rfl (by decide) 26 rfl ?_
      refine z_getR F zc7 dX9_text_26 rfl 5 (by decide) (by decide) (.inr ⟨_, m_209⟩) rfl (by decide) 29 rfl ?_
      refine z_callVu F dX9_text_29 m_631 iX4_clear jX4_clear rfl zc3 rfl (kX4_clear _ (S := shC) (r := 21) (a := 22) (cap := 60) rfl rfl (by decide)) rfl (by decide) (Nat.le_of_ble_eq_true rfl) 32 rfl ?_
      refine z_iload_n F dX9_text_32 2 rfl 33 rfl ?_
      refine z_if_lt F dX9_text_33 41 (by decide) 36 rfl (fun h33 => ?_) (fun h33 => ?_)
      · skip
        have hok : (topP (tbR (μ 1)) 0).2.2 = true ∧ (topP (tbR (μ 1)) 0).1 = tN (μ 1) := by
          by_cases z : (topP (tbR (μ 1)) 0).2.2 = true ∧ (topP (tbR (μ 1)) 0).1 = tN (μ 1)
          · exact z
          · rw [if_neg z] at h33; exact absurd h33 (nI_pos (by omega))
        obtain ⟨q1, q2, q3⟩ := g3 hok.1
        refine z_aload_n F dX9_text_41 0 rfl 42 rfl ?_
        refine z_getR F zc8 dX9_text_42 rfl 0 (by decide) (by decide) (.inl m_302) rfl (by decide) 45 rfl ?_
        refine z_getR F zc7 dX9_text_45 rfl 4 (by decide) (by decide) (.inr ⟨_, m_208⟩) rfl (by decide) 48 rfl ?_
        refine z_iload_n F dX9_text_48 1 rfl 49 rfl ?_
        refine z_aaldT F dX9_text_49 rfl (show vp_in (nI 0) 2 from vp_in_nI (by decide) (by decide)) rfl 50 rfl ?_
        refine z_getR F zc5 dX9_text_50 rfl 0 (by decide) (by decide) (.inr ⟨_, m_190⟩) rfl (by decide) 53 rfl ?_
        refine z_aload_n F dX9_text_53 0 rfl 54 rfl ?_
        refine z_getR F zc8 dX9_text_54 rfl 3 (by decide) (by decide) (.inl m_305) rfl (by decide) 57 rfl ?_
        refine z_getR F zc2 dX9_text_57 rfl 1 (by decide) (by decide) (.inr ⟨_, m_245⟩) rfl (by decide) 60 rfl ?_
        refine z_callVu F dX9_text_60 m_632 iX4_copy jX4_copy rfl zc3 rfl (kX4_copy _ (S := shC) (r := 14) (a := 15) (cap := 60) rfl rfl (by decide) (r2 := 52) (a2 := 53) (cap2 := 60) rfl rfl (by decide) (n := (topP (tbR (μ 1)) 0).2.1.length) (show s18 52 1 = _ from (p18 hok.1).2.2.2.1) (by omega) (by omega) (by decide)) rfl (by decide) (Nat.le_of_ble_eq_true rfl) 63 rfl ?_
        refine z_iconst F dX9_text_63 1 (by decide) 64 rfl ?_
        refine z_ri F dX9_text_64 ?_
        have := hR2.tset0 (L := (topP (tbR (μ 1)) 0).2.1) (by omega) q3 (fun k hk => (p18 hok.1).2.2.2.2 k hk)
        rw [up_up, up_same] at this
        exact fin (by rw [eop, if_pos hok]) this
      · skip
        refine z_bipush F dX9_text_36 (-10) (by decide) 38 rfl ?_
        refine z_iload_n F dX9_text_38 2 rfl 39 rfl ?_
        refine z_isub F dX9_text_39 40 rfl ?_
        refine z_ri F dX9_text_40 ?_
        have hno : ¬ ((topP (tbR (μ 1)) 0).2.2 = true ∧ (topP (tbR (μ 1)) 0).1 = tN (μ 1)) := fun z => by rw [if_pos z] at h33; exact absurd h33 (by decide)
        rw [if_neg hno]
        exact fin (by rw [eop, if_neg hno]) hR2
    · skip
      refine z_aload_n F dX9_text_13 0 rfl 14 rfl ?_
      refine z_getR F zc8 dX9_text_14 rfl 3 (by decide) (by decide) (.inl m_305) rfl (by decide) 17 rfl ?_
      refine z_iload_n F dX9_text_17 1 rfl 18 rfl ?_
      refine z_callVi F dX9_text_18 m_511 iX3_faultFor jX3_faultFor rfl zc2 rfl (kX3_faultFor σ (b := tbR (μ 1)) (n := tN (μ 1)) (u := 1) (tbR_T hR.vx) (by decide) ⟨hR.tap.1.trans hR.vx.1, hR.vx.2.1, fun k hk => (hR.tap.2 k hk).trans (if_pos hk).symm⟩) rfl (by decide) (Nat.le_of_ble_eq_true rfl) 21 rfl (fun r18 s18 c18 => ?_)
      have eop : aText μ (nI 1) = if (topP (tbR (μ 1)) 1).2.2 = true ∧ (topP (tbR (μ 1)) 1).1 = tN (μ 1) then (1, z_up μ 1 (txtR (upd (μ 1) 5 0) 1 (topP (tbR (μ 1)) 1).2.1)) else (-10 - nI (topP (tbR (μ 1)) 1).1, z_up μ 1 (upd (μ 1) 5 0)) := by
        unfold aText
        rw [if_pos (by decide), show (nI 1).toNatClampNeg = 1 from nI_clamp (by decide)]
      obtain ⟨rfl, m18, p18⟩ := c18
      have hx := hR.vx
      have hTb := tbR_T hx
      have hg := lev_gd hTb (unt_gd hTb (show 1 < 2 by decide) 5) 5 (by decide) 0 (by omega)
      have g2 : (topP (tbR (μ 1)) 1).1 ≤ tN (μ 1) := hg.2.1
      have g3 : (topP (tbR (μ 1)) 1).2.2 = true → 0 + (topP (tbR (μ 1)) 1).2.1.length ≤ (topP (tbR (μ 1)) 1).1 ∧ 1 ≤ (topP (tbR (μ 1)) 1).2.1.length ∧ stk (topP (tbR (μ 1)) 1).2.1 := hg.2.2
      have t60 := hx.2.1
      have hR2 := hR.tclr m18
      refine z_istore_n F dX9_text_21 [(0, _), (1, _), (2, _)] rfl (by decide) 22 rfl ?_
      refine z_aload_n F dX9_text_22 0 rfl 23 rfl ?_
      refine z_getR F zc8 dX9_text_23 rfl 0 (by decide) (by decide) (.inl m_302) rfl (by decide) 26 rfl ?_
      refine z_getR F zc7 dX9_text_26 rfl 5 (by decide) (by decide) (.inr ⟨_, m_209⟩) rfl (by decide) 29 rfl ?_
      refine z_callVu F dX9_text_29 m_631 iX4_clear jX4_clear rfl zc3 rfl (kX4_clear _ (S := shC) (r := 21) (a := 22) (cap := 60) rfl rfl (by decide)) rfl (by decide) (Nat.le_of_ble_eq_true rfl) 32 rfl ?_
      refine z_iload_n F dX9_text_32 2 rfl 33 rfl ?_
      refine z_if_lt F dX9_text_33 41 (by decide) 36 rfl (fun h33 => ?_) (fun h33 => ?_)
      · skip
        have hok : (topP (tbR (μ 1)) 1).2.2 = true ∧ (topP (tbR (μ 1)) 1).1 = tN (μ 1) := by
          by_cases z : (topP (tbR (μ 1)) 1).2.2 = true ∧ (topP (tbR (μ 1)) 1).1 = tN (μ 1)
          · exact z
          · rw [if_neg z] at h33; exact absurd h33 (nI_pos (by omega))
        obtain ⟨q1, q2, q3⟩ := g3 hok.1
        refine z_aload_n F dX9_text_41 0 rfl 42 rfl ?_
        refine z_getR F zc8 dX9_text_42 rfl 0 (by decide) (by decide) (.inl m_302) rfl (by decide) 45 rfl ?_
        refine z_getR F zc7 dX9_text_45 rfl 4 (by decide) (by decide) (.inr ⟨_, m_208⟩) rfl (by decide) 48 rfl ?_
        refine z_iload_n F dX9_text_48 1 rfl 49 rfl ?_
        refine z_aaldT F dX9_text_49 rfl (show vp_in (nI 1) 2 from vp_in_nI (by decide) (by decide)) rfl 50 rfl ?_
        refine z_getR F zc5 dX9_text_50 rfl 0 (by decide) (by decide) (.inr ⟨_, m_190⟩) rfl (by decide) 53 rfl ?_
        refine z_aload_n F dX9_text_53 0 rfl 54 rfl ?_
        refine z_getR F zc8 dX9_text_54 rfl 3 (by decide) (by decide) (.inl m_305) rfl (by decide) 57 rfl ?_
        refine z_getR F zc2 dX9_text_57 rfl 1 (by decide) (by decide) (.inr ⟨_, m_245⟩) rfl (by decide) 60 rfl ?_
        refine z_callVu F dX9_text_60 m_632 iX4_copy jX4_copy rfl zc3 rfl (kX4_copy _ (S := shC) (r := 18) (a := 19) (cap := 60) rfl rfl (by decide) (r2 := 52) (a2 := 53) (cap2 := 60) rfl rfl (by decide) (n := (topP (tbR (μ 1)) 1).2.1.length) (show s18 52 1 = _ from (p18 hok.1).2.2.2.1) (by omega) (by omega) (by decide)) rfl (by decide) (Nat.le_of_ble_eq_true rfl) 63 rfl ?_
        refine z_iconst F dX9_text_63 1 (by decide) 64 rfl ?_
        refine z_ri F dX9_text_64 ?_
        have := hR2.tset1 (L := (topP (tbR (μ 1)) 1).2.1) (by omega) q3 (fun k hk => (p18 hok.1).2.2.2.2 k hk)
        rw [up_up, up_same] at this
        exact fin (by rw [eop, if_pos hok]) this
      · skip
        refine z_bipush F dX9_text_36 (-10) (by decide) 38 rfl ?_
        refine z_iload_n F dX9_text_38 2 rfl 39 rfl ?_
        refine z_isub F dX9_text_39 40 rfl ?_
        refine z_ri F dX9_text_40 ?_
        have hno : ¬ ((topP (tbR (μ 1)) 1).2.2 = true ∧ (topP (tbR (μ 1)) 1).1 = tN (μ 1)) := fun z => by rw [if_pos z] at h33; exact absurd h33 (by decide)
        rw [if_neg hno]
        exact fin (by rw [eop, if_neg hno]) hR2
  · skip
    have h4 := bI0.mp h4
    refine z_aload_n F dX9_text_7 0 rfl 8 rfl ?_
    refine z_iconst F dX9_text_8 1 (by decide) 9 rfl ?_
    refine z_callVi F dX9_text_9 m_334 iX9_fail jX9_fail rfl zc8 rfl (kX9_fail σ (k := 1) (by decide) (by decide)) rfl (by decide) (Nat.le_of_ble_eq_true rfl) 12 rfl (fun r9 s9 c9 => ?_)
    refine z_ri F dX9_text_12 ?_
    obtain ⟨rfl, rfl⟩ := c9
    exact fin (show aText μ u = er μ 1 by unfold aText; exact if_neg h4) (hR.fail (by decide) (by decide))
