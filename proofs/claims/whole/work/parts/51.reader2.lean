/-! the reference's reader -/
def tbR2 (r : Rw) (i : Nat) : Int32 := tbR r i
def lkS (r : Rw) (i : Nat) : Int32 := if i < tN r then r (59 + i) else -1
/-- all but the reader's own stands -/
def MG (τ τ' : z_M) : Prop := (∀ q, q ≠ 0 → q ≠ 8 → q ≠ 9 → τ' q = τ q) ∧ ∀ k, k < 12 ∨ 16 ≤ k → τ' 0 k = τ 0 k
theorem MG.rf {τ : z_M} : MG τ τ := ⟨fun _ _ _ _ => rfl, fun _ _ => rfl⟩
theorem MG.tr {a b c : z_M} (h : MG a b) (h2 : MG b c) : MG a c := ⟨fun q q0 q8 q9 => (h2.1 q q0 q8 q9).trans (h.1 q q0 q8 q9), fun k hk => (h2.2 k hk).trans (h.2 k hk)⟩
theorem MG.u0 {a b : z_M} {k : Nat} {v : Int32} (h : MG a b) (hk : 12 ≤ k ∧ k < 16) : MG a (z_u2 b 0 k v) :=
  ⟨fun q q0 q8 q9 => by rw [u2_o q0]; exact h.1 q q0 q8 q9, fun j hj => by rw [u2_k (by omega)]; exact h.2 j hj⟩
theorem MG.u8 {a b : z_M} {o k : Nat} {v : Int32} (h : MG a b) (ho : o = 8 ∨ o = 9) : MG a (z_u2 b o k v) :=
  ⟨fun q q0 q8 q9 => by rw [u2_o (by omega)]; exact h.1 q q0 q8 q9, fun j hj => by rw [u2_o (by omega)]; exact h.2 j hj⟩
def MdB (τ : z_M) (r : Rw) (w o i : Nat) : Prop := τ 1 = r ∧ τ 0 13 = nI i ∧ τ 0 14 = nI o ∧ τ 0 16 = nI w ∧ ∃ q, q ≤ 60 ∧ τ 0 12 = nI q
def MdL (τ : z_M) (L : List (Int32 × Int32)) : Prop := τ 0 12 = nI L.length ∧ ∀ k, k < L.length → τ 8 k = (L.getD k (0, 0)).1 ∧ τ 9 k = (L.getD k (0, 0)).2
def MdP (τ : z_M) (r : Rw) (w o : Nat) (L : List (Int32 × Int32)) (R : PR) (τ' : z_M) : Prop := MG τ τ' ∧ MdB τ' r w o R.1 ∧ τ' 0 15 = bI (¬ R.2.2 = true) ∧ (R.2.2 = true → MdL τ' (L ++ R.2.1))
theorem MdB.adv {τ : z_M} {r : Rw} {w o i j : Nat} (h : MdB τ r w o i) : MdB (z_u2 τ 0 13 (nI j)) r w o j := by
  obtain ⟨h1, h2, h3, h4, h5⟩ := h
  unfold MdB
  rw [u2_o (show (1 : Nat) ≠ 0 by decide), u2_same, u2_k (show 14 ≠ 13 by decide), u2_k (show 16 ≠ 13 by decide), u2_k (show 12 ≠ 13 by decide)]
  exact ⟨h1, rfl, h3, h4, h5⟩
theorem MdB.opn {τ : z_M} {r : Rw} {w o i j : Nat} (h : MdB τ r w o i) : MdB (z_u2 τ 0 14 (nI j)) r w j i := by
  obtain ⟨h1, h2, h3, h4, h5⟩ := h
  unfold MdB
  rw [u2_o (show (1 : Nat) ≠ 0 by decide), u2_same, u2_k (show 13 ≠ 14 by decide), u2_k (show 16 ≠ 14 by decide), u2_k (show 12 ≠ 14 by decide)]
  exact ⟨h1, h2, rfl, h4, h5⟩
theorem MdB.bad {τ : z_M} {r : Rw} {w o i : Nat} {v : Int32} (h : MdB τ r w o i) : MdB (z_u2 τ 0 15 v) r w o i := by
  obtain ⟨h1, h2, h3, h4, h5⟩ := h
  unfold MdB
  rw [u2_o (show (1 : Nat) ≠ 0 by decide), u2_k (show 14 ≠ 15 by decide), u2_k (show 13 ≠ 15 by decide), u2_k (show 16 ≠ 15 by decide), u2_k (show 12 ≠ 15 by decide)]
  exact ⟨h1, h2, h3, h4, h5⟩
theorem MdL.u0 {τ : z_M} {L : List (Int32 × Int32)} {k : Nat} {v : Int32} (h : MdL τ L) (hk : k ≠ 12) : MdL (z_u2 τ 0 k v) L := by
  unfold MdL
  rw [u2_k (Ne.symm hk), u2_o (show (8 : Nat) ≠ 0 by decide), u2_o (show (9 : Nat) ≠ 0 by decide)]; exact h
/-- what lays does -/
def layM (τ : z_M) (q : Nat) (a v : Int32) : z_M := if q < 60 then z_u2 (z_u2 (z_u2 τ 8 q a) 9 q v) 0 12 (nI (q + 1)) else τ
theorem lay_G {a τ : z_M} {q : Nat} {x v : Int32} (h : MG a τ) : MG a (layM τ q x v) := by
  unfold layM; split
  · exact ((h.u8 (Or.inl rfl)).u8 (Or.inr rfl)).u0 (by decide)
  · exact h
theorem lay_B {τ : z_M} {r : Rw} {w o i q : Nat} {x v : Int32} (h : MdB τ r w o i) (hq : τ 0 12 = nI q) : MdB (layM τ q x v) r w o i := by
  unfold layM; split
  · obtain ⟨h1, h2, h3, h4, h5⟩ := h
    unfold MdB
    rw [u2_o (show (1 : Nat) ≠ 0 by decide), u2_o (show (1 : Nat) ≠ 9 by decide), u2_o (show (1 : Nat) ≠ 8 by decide), u2_k (show 13 ≠ 12 by decide), u2_k (show 14 ≠ 12 by decide), u2_k (show 16 ≠ 12 by decide), u2_o (show (0 : Nat) ≠ 9 by decide), u2_o (show (0 : Nat) ≠ 8 by decide), u2_same]
    exact ⟨h1, h2, h3, h4, q + 1, by omega, rfl⟩
  · exact h
theorem lay_15 {τ : z_M} {q : Nat} {x v : Int32} : layM τ q x v 0 15 = τ 0 15 := by
  unfold layM; split
  · rw [u2_k (by decide), u2_o (by decide), u2_o (by decide)]
  · rfl
theorem lay_L {τ : z_M} {L : List (Int32 × Int32)} {x v : Int32} (h : MdL τ L) (hl : L.length < 60) : MdL (layM τ L.length x v) (L ++ [(x, v)]) := by
  unfold layM
  rw [if_pos hl]
  refine ⟨by rw [u2_same]; simp, fun k hk => ?_⟩
  simp at hk
  rw [u2_o (show (8 : Nat) ≠ 0 by decide), u2_o (show (9 : Nat) ≠ 0 by decide), u2_o (show (8 : Nat) ≠ 9 by decide), u2_at, u2_at, u2_o (show (9 : Nat) ≠ 8 by decide)]
  by_cases q : k = L.length
  · subst q; simp
  · rw [if_neg (fun z => q z.2), if_neg (fun z => q z.2), (h.2 k (by omega)).1, (h.2 k (by omega)).2]
    simp [List.getD_eq_getElem?_getD, List.getElem?_append_left (show k < L.length by omega)]
theorem lk_lt {r : Rw} {i : Nat} (h : i < tN r) : lkS r i = tbR r i := by unfold lkS tbR; rw [if_pos h, if_pos h]
theorem lk_eq {r : Rw} {i : Nat} {c : Int32} (h0 : ¬ 0 = c) (h1 : ¬ -1 = c) : lkS r i = c ↔ tbR r i = c := by
  unfold lkS tbR
  split
  · exact Iff.rfl
  · exact ⟨fun z => absurd z h1, fun z => absurd z h0⟩
theorem lk_dig {r : Rw} {i : Nat} : (48 ≤ lkS r i ∧ lkS r i ≤ 57) ↔ (48 ≤ tbR r i ∧ tbR r i ≤ 57) := by
  unfold lkS tbR
  split
  · exact Iff.rfl
  · exact ⟨fun z => absurd z (by decide), fun z => absurd z (by decide)⟩
theorem nm_lk {r : Rw} {i w : Nat} (hw : w < 2) : nmS w (lkS r i) = nmS w (tbR r i) := by
  unfold lkS tbR
  split
  · rfl
  · rcases (show w = 0 ∨ w = 1 by omega) with rfl | rfl <;> rfl
theorem nm_no (x : Int32) (h1 : ¬ x = 99) (h2 : ¬ x = 101) (h3 : ¬ x = 115) (h4 : ¬ x = 118) (h5 : ¬ x = 121) (w : Nat) (hw : w < 2) : nmS w x = -1 := by
  rcases (show w = 0 ∨ w = 1 by omega) with rfl | rfl
  · show (if x = 118 then 0 else if x = 115 then 1 else if x = 121 then 2 else -1) = -1
    rw [if_neg h4, if_neg h3, if_neg h5]
  · show (if x = 101 then 0 else if x = 121 then 1 else if x = 99 then 2 else -1) = -1
    rw [if_neg h2, if_neg h5, if_neg h1]
set_option maxHeartbeats 400000 in
set_option maxRecDepth 10000 in
theorem kX10_look {l : Launch} {E : z_E} (σ : z_M) {r : Rw} (hx : VX r) {w o i : Nat} (hB : MdB σ r w o i) (hi : i ≤ tN r) : z_C l E shM 0 yX10_look cX10_look 1 (some FieldType.int) [.ref (z_ad E 0)] σ (z_Pp (lkS r i) σ) := by
  refine z_intro iX10_look (Nat.le_of_ble_eq_true rfl) (fun K F => ?_)
  have h60 := hx.2.1
  refine z_aload_n F dX10_look_0 0 rfl 1 rfl ?_
  refine z_getI F zc9 dX10_look_1 rfl 13 (by decide) (by decide) (.inl m_943) rfl 4 rfl ?_
  rw [hB.2.1]
  refine z_aload_n F dX10_look_4 0 rfl 5 rfl ?_
  refine z_getR F zc9 dX10_look_5 rfl 0 (by decide) (by decide) (.inl m_930) rfl (by decide) 8 rfl ?_
  refine z_iconst F dX10_look_8 5 (by decide) 9 rfl ?_
  refine z_iald F dX10_look_9 rfl (show vp_in (nI 5) 385 from vp_in_nI (by decide) (by decide)) 10 rfl ?_
  rw [tn_5]
  rw [hB.1, show r 5 = nI (tN r) from hx.1]
  refine z_icmp_ge F dX10_look_10 28 (by decide) 13 rfl (fun h10 => ?_) (fun h10 => ?_)
  · skip
    refine z_iconst F dX10_look_28 (-1) (by decide) 29 rfl ?_
    refine z_rp F dX10_look_29 ?_ rfl
    have hin : ¬ i < tN r := by have := le_nI h10 (by omega) (by omega); omega
    unfold lkS
    rw [if_neg hin]
  · skip
    have hin : i < tN r := nle_nI h10 (by omega) (by omega)
    refine z_aload_n F dX10_look_13 0 rfl 14 rfl ?_
    refine z_getR F zc9 dX10_look_14 rfl 0 (by decide) (by decide) (.inl m_930) rfl (by decide) 17 rfl ?_
    refine z_bipush F dX10_look_17 59 (by decide) 19 rfl ?_
    refine z_aload_n F dX10_look_19 0 rfl 20 rfl ?_
    refine z_getI F zc9 dX10_look_20 rfl 13 (by decide) (by decide) (.inl m_943) rfl 23 rfl ?_
    rw [hB.2.1]
    refine z_iadd F dX10_look_23 24 rfl ?_
    rw [show (59 : Int32) + nI i = nI (59 + i) from nI_add 59 i]
    refine z_iald F dX10_look_24 rfl (vp_in_nI (by omega) (by decide)) 25 rfl ?_
    rw [nI_clamp (by omega), hB.1]
    refine z_goto F dX10_look_25 29 (by decide) ?_
    refine z_rp F dX10_look_29 ?_ rfl
    unfold lkS
    rw [if_pos hin]
set_option maxHeartbeats 400000 in
set_option maxRecDepth 10000 in
theorem kX10_lays {l : Launch} {E : z_E} (σ : z_M) {q : Nat} (hq : q ≤ 60) (h12 : σ 0 12 = nI q) (x v : Int32) : z_C l E shM 0 yX10_lays cX10_lays 3 none [.ref (z_ad E 0), .int x, .int v] σ (z_Pu (layM σ q x v)) := by
  refine z_intro iX10_lays (Nat.le_of_ble_eq_true rfl) (fun K F => ?_)
  refine z_aload_n F dX10_lays_0 0 rfl 1 rfl ?_
  refine z_getI F zc9 dX10_lays_1 rfl 12 (by decide) (by decide) (.inl m_942) rfl 4 rfl ?_
  rw [h12]
  refine z_aload_n F dX10_lays_4 0 rfl 5 rfl ?_
  refine z_getR F zc9 dX10_lays_5 rfl 8 (by decide) (by decide) (.inl m_938) rfl (by decide) 8 rfl ?_
  refine z_alen F dX10_lays_8 rfl 60 rfl 9 rfl ?_
  refine z_icmp_ge F dX10_lays_9 42 (by decide) 12 rfl (fun h9 => ?_) (fun h9 => ?_)
  · skip
    refine z_ru F dX10_lays_42 ?_
    have hq6 : ¬ q < 60 := by have := le_nI (a := 60) h9 (by decide) (by omega); omega
    unfold layM; rw [if_neg hq6]
  · skip
    have hq6 : q < 60 := nle_nI (a := 60) h9 (by decide) (by omega)
    refine z_aload_n F dX10_lays_12 0 rfl 13 rfl ?_
    refine z_getR F zc9 dX10_lays_13 rfl 8 (by decide) (by decide) (.inl m_938) rfl (by decide) 16 rfl ?_
    refine z_aload_n F dX10_lays_16 0 rfl 17 rfl ?_
    refine z_getI F zc9 dX10_lays_17 rfl 12 (by decide) (by decide) (.inl m_942) rfl 20 rfl ?_
    rw [h12]
    refine z_iload_n F dX10_lays_20 1 rfl 21 rfl ?_
    refine z_iast F dX10_lays_21 rfl (vp_in_nI (by omega) (by decide)) 22 rfl ?_
    rw [nI_clamp (by omega)]
    refine z_aload_n F dX10_lays_22 0 rfl 23 rfl ?_
    refine z_getR F zc9 dX10_lays_23 rfl 9 (by decide) (by decide) (.inl m_939) rfl (by decide) 26 rfl ?_
    refine z_aload_n F dX10_lays_26 0 rfl 27 rfl ?_
    refine z_getI F zc9 dX10_lays_27 rfl 12 (by decide) (by decide) (.inl m_942) rfl 30 rfl ?_
    rw [u2_o (show (0 : Nat) ≠ 8 by decide), h12]
    refine z_iload_n F dX10_lays_30 2 rfl 31 rfl ?_
    refine z_iast F dX10_lays_31 rfl (vp_in_nI (by omega) (by decide)) 32 rfl ?_
    rw [nI_clamp (by omega)]
    refine z_aload_n F dX10_lays_32 0 rfl 33 rfl ?_
    refine z_dup F dX10_lays_33 rfl 34 rfl ?_
    refine z_getI F zc9 dX10_lays_34 rfl 12 (by decide) (by decide) (.inl m_942) rfl 37 rfl ?_
    rw [u2_o (show (0 : Nat) ≠ 9 by decide), u2_o (show (0 : Nat) ≠ 8 by decide), h12]
    refine z_iconst F dX10_lays_37 1 (by decide) 38 rfl ?_
    refine z_iadd F dX10_lays_38 39 rfl ?_
    rw [nI_1]
    refine z_putI F zc9 dX10_lays_39 rfl 12 (by decide) (by decide) (.inl m_942) rfl rfl z_pI 42 rfl ?_
    refine z_ru F dX10_lays_42 ?_
    unfold layM; rw [if_pos hq6]
set_option maxHeartbeats 1000000 in
set_option maxRecDepth 10000 in
theorem kX10_nameOf {l : Launch} {E : z_E} (σ : z_M) {w : Nat} (hw : w < 2) (h16 : σ 0 16 = nI w) (x : Int32) : z_C l E shM 0 yX10_nameOf cX10_nameOf 2 (some FieldType.int) [.ref (z_ad E 0), .int x] σ (z_Pp (nmS w x) σ) := by
  refine z_intro iX10_nameOf (Nat.le_of_ble_eq_true rfl) (fun K F => ?_)
  refine z_iload_n F dX10_nameOf_0 1 rfl 1 rfl ?_
  by_cases e1_99 : x = 99
  · skip
    refine z_lookup F dX10_nameOf_1 (by decide +kernel) (by rw [e1_99]; first | done | decide +kernel) 75 (by decide) ?_
    refine z_aload_n F dX10_nameOf_75 0 rfl 76 rfl ?_
    refine z_getI F zc9 dX10_nameOf_76 rfl 16 (by decide) (by decide) (.inl m_946) rfl 79 rfl ?_
    rw [h16]
    refine z_iconst F dX10_nameOf_79 1 (by decide) 80 rfl ?_
    refine z_icmp_eq F dX10_nameOf_80 87 (by decide) 83 rfl (fun h80 => ?_) (fun h80 => ?_)
    · skip
      refine z_iload_n F dX10_nameOf_87 1 rfl 88 rfl ?_
      refine z_bipush F dX10_nameOf_88 101 (by decide) 90 rfl ?_
      refine z_icmp_ne F dX10_nameOf_90 97 (by decide) 93 rfl (fun h90 => ?_) (fun h90 => ?_)
      · skip
        refine z_iconst F dX10_nameOf_97 2 (by decide) 98 rfl ?_
        refine z_rp F dX10_nameOf_98 ?_ rfl
        rcases (show w = 0 ∨ w = 1 by omega) with rfl | rfl <;> first | (exfalso; exact h80 rfl) | (exfalso; exact absurd h80 (by decide)) | (rw [h90]; rfl) | (rw [e1_99]; rfl) | (rw [e1_101]; rfl) | (exfalso; exact h90 e1_101) | (exfalso; rw [e1_99] at h90; exact absurd h90 (by decide))
      · skip
        refine z_iconst F dX10_nameOf_93 0 (by decide) 94 rfl ?_
        refine z_goto F dX10_nameOf_94 98 (by decide) ?_
        refine z_rp F dX10_nameOf_98 ?_ rfl
        rcases (show w = 0 ∨ w = 1 by omega) with rfl | rfl <;> first | (exfalso; exact h80 rfl) | (exfalso; exact absurd h80 (by decide)) | (rw [h90]; rfl) | (rw [e1_99]; rfl) | (rw [e1_101]; rfl) | (exfalso; exact h90 e1_101) | (exfalso; rw [e1_99] at h90; exact absurd h90 (by decide))
    · skip
      refine z_iconst F dX10_nameOf_83 (-1) (by decide) 84 rfl ?_
      refine z_goto F dX10_nameOf_84 98 (by decide) ?_
      refine z_rp F dX10_nameOf_98 ?_ rfl
      rcases (show w = 0 ∨ w = 1 by omega) with rfl | rfl <;> first | (exfalso; exact h80 rfl) | (exfalso; exact absurd h80 (by decide)) | (rw [h90]; rfl) | (rw [e1_99]; rfl) | (rw [e1_101]; rfl) | (exfalso; exact h90 e1_101) | (exfalso; rw [e1_99] at h90; exact absurd h90 (by decide))
  by_cases e1_101 : x = 101
  · skip
    refine z_lookup F dX10_nameOf_1 (by decide +kernel) (by rw [e1_101]; first | done | decide +kernel) 75 (by decide) ?_
    refine z_aload_n F dX10_nameOf_75 0 rfl 76 rfl ?_
    refine z_getI F zc9 dX10_nameOf_76 rfl 16 (by decide) (by decide) (.inl m_946) rfl 79 rfl ?_
    rw [h16]
    refine z_iconst F dX10_nameOf_79 1 (by decide) 80 rfl ?_
    refine z_icmp_eq F dX10_nameOf_80 87 (by decide) 83 rfl (fun h80 => ?_) (fun h80 => ?_)
    · skip
      refine z_iload_n F dX10_nameOf_87 1 rfl 88 rfl ?_
      refine z_bipush F dX10_nameOf_88 101 (by decide) 90 rfl ?_
      refine z_icmp_ne F dX10_nameOf_90 97 (by decide) 93 rfl (fun h90 => ?_) (fun h90 => ?_)
      · skip
        refine z_iconst F dX10_nameOf_97 2 (by decide) 98 rfl ?_
        refine z_rp F dX10_nameOf_98 ?_ rfl
        rcases (show w = 0 ∨ w = 1 by omega) with rfl | rfl <;> first | (exfalso; exact h80 rfl) | (exfalso; exact absurd h80 (by decide)) | (rw [h90]; rfl) | (rw [e1_99]; rfl) | (rw [e1_101]; rfl) | (exfalso; exact h90 e1_101) | (exfalso; rw [e1_99] at h90; exact absurd h90 (by decide))
      · skip
        refine z_iconst F dX10_nameOf_93 0 (by decide) 94 rfl ?_
        refine z_goto F dX10_nameOf_94 98 (by decide) ?_
        refine z_rp F dX10_nameOf_98 ?_ rfl
        rcases (show w = 0 ∨ w = 1 by omega) with rfl | rfl <;> first | (exfalso; exact h80 rfl) | (exfalso; exact absurd h80 (by decide)) | (rw [h90]; rfl) | (rw [e1_99]; rfl) | (rw [e1_101]; rfl) | (exfalso; exact h90 e1_101) | (exfalso; rw [e1_99] at h90; exact absurd h90 (by decide))
    · skip
      refine z_iconst F dX10_nameOf_83 (-1) (by decide) 84 rfl ?_
      refine z_goto F dX10_nameOf_84 98 (by decide) ?_
      refine z_rp F dX10_nameOf_98 ?_ rfl
      rcases (show w = 0 ∨ w = 1 by omega) with rfl | rfl <;> first | (exfalso; exact h80 rfl) | (exfalso; exact absurd h80 (by decide)) | (rw [h90]; rfl) | (rw [e1_99]; rfl) | (rw [e1_101]; rfl) | (exfalso; exact h90 e1_101) | (exfalso; rw [e1_99] at h90; exact absurd h90 (by decide))
  by_cases e1_115 : x = 115
  · skip
    refine z_lookup F dX10_nameOf_1 (by decide +kernel) (by rw [e1_115]; first | done | decide +kernel) 52 (by decide) ?_
    refine z_aload_n F dX10_nameOf_52 0 rfl 53 rfl ?_
    refine z_getI F zc9 dX10_nameOf_53 rfl 16 (by decide) (by decide) (.inl m_946) rfl 56 rfl ?_
    rw [h16]
    refine z_if_eq F dX10_nameOf_56 63 (by decide) 59 rfl (fun h56 => ?_) (fun h56 => ?_)
    · skip
      refine z_iload_n F dX10_nameOf_63 1 rfl 64 rfl ?_
      refine z_bipush F dX10_nameOf_64 118 (by decide) 66 rfl ?_
      refine z_icmp_ne F dX10_nameOf_66 73 (by decide) 69 rfl (fun h66 => ?_) (fun h66 => ?_)
      · skip
        refine z_iconst F dX10_nameOf_73 1 (by decide) 74 rfl ?_
        refine z_rp F dX10_nameOf_74 ?_ rfl
        rcases (show w = 0 ∨ w = 1 by omega) with rfl | rfl <;> first | (exfalso; exact h56 rfl) | (exfalso; exact absurd h56 (by decide)) | (rw [h66]; rfl) | (rw [e1_115]; rfl) | (rw [e1_118]; rfl) | (exfalso; exact h66 e1_118) | (exfalso; rw [e1_115] at h66; exact absurd h66 (by decide))
      · skip
        refine z_iconst F dX10_nameOf_69 0 (by decide) 70 rfl ?_
        refine z_goto F dX10_nameOf_70 74 (by decide) ?_
        refine z_rp F dX10_nameOf_74 ?_ rfl
        rcases (show w = 0 ∨ w = 1 by omega) with rfl | rfl <;> first | (exfalso; exact h56 rfl) | (exfalso; exact absurd h56 (by decide)) | (rw [h66]; rfl) | (rw [e1_115]; rfl) | (rw [e1_118]; rfl) | (exfalso; exact h66 e1_118) | (exfalso; rw [e1_115] at h66; exact absurd h66 (by decide))
    · skip
      refine z_iconst F dX10_nameOf_59 (-1) (by decide) 60 rfl ?_
      refine z_goto F dX10_nameOf_60 74 (by decide) ?_
      refine z_rp F dX10_nameOf_74 ?_ rfl
      rcases (show w = 0 ∨ w = 1 by omega) with rfl | rfl <;> first | (exfalso; exact h56 rfl) | (exfalso; exact absurd h56 (by decide)) | (rw [h66]; rfl) | (rw [e1_115]; rfl) | (rw [e1_118]; rfl) | (exfalso; exact h66 e1_118) | (exfalso; rw [e1_115] at h66; exact absurd h66 (by decide))
  by_cases e1_118 : x = 118
  · skip
    refine z_lookup F dX10_nameOf_1 (by decide +kernel) (by rw [e1_118]; first | done | decide +kernel) 52 (by decide) ?_
    refine z_aload_n F dX10_nameOf_52 0 rfl 53 rfl ?_
    refine z_getI F zc9 dX10_nameOf_53 rfl 16 (by decide) (by decide) (.inl m_946) rfl 56 rfl ?_
    rw [h16]
    refine z_if_eq F dX10_nameOf_56 63 (by decide) 59 rfl (fun h56 => ?_) (fun h56 => ?_)
    · skip
      refine z_iload_n F dX10_nameOf_63 1 rfl 64 rfl ?_
      refine z_bipush F dX10_nameOf_64 118 (by decide) 66 rfl ?_
      refine z_icmp_ne F dX10_nameOf_66 73 (by decide) 69 rfl (fun h66 => ?_) (fun h66 => ?_)
      · skip
        refine z_iconst F dX10_nameOf_73 1 (by decide) 74 rfl ?_
        refine z_rp F dX10_nameOf_74 ?_ rfl
        rcases (show w = 0 ∨ w = 1 by omega) with rfl | rfl <;> first | (exfalso; exact h56 rfl) | (exfalso; exact absurd h56 (by decide)) | (rw [h66]; rfl) | (rw [e1_115]; rfl) | (rw [e1_118]; rfl) | (exfalso; exact h66 e1_118) | (exfalso; rw [e1_115] at h66; exact absurd h66 (by decide))
      · skip
        refine z_iconst F dX10_nameOf_69 0 (by decide) 70 rfl ?_
        refine z_goto F dX10_nameOf_70 74 (by decide) ?_
        refine z_rp F dX10_nameOf_74 ?_ rfl
        rcases (show w = 0 ∨ w = 1 by omega) with rfl | rfl <;> first | (exfalso; exact h56 rfl) | (exfalso; exact absurd h56 (by decide)) | (rw [h66]; rfl) | (rw [e1_115]; rfl) | (rw [e1_118]; rfl) | (exfalso; exact h66 e1_118) | (exfalso; rw [e1_115] at h66; exact absurd h66 (by decide))
    · skip
      refine z_iconst F dX10_nameOf_59 (-1) (by decide) 60 rfl ?_
      refine z_goto F dX10_nameOf_60 74 (by decide) ?_
      refine z_rp F dX10_nameOf_74 ?_ rfl
      rcases (show w = 0 ∨ w = 1 by omega) with rfl | rfl <;> first | (exfalso; exact h56 rfl) | (exfalso; exact absurd h56 (by decide)) | (rw [h66]; rfl) | (rw [e1_115]; rfl) | (rw [e1_118]; rfl) | (exfalso; exact h66 e1_118) | (exfalso; rw [e1_115] at h66; exact absurd h66 (by decide))
  by_cases e1_121 : x = 121
  · skip
    refine z_lookup F dX10_nameOf_1 (by decide +kernel) (by rw [e1_121]; first | done | decide +kernel) 99 (by decide) ?_
    refine z_aload_n F dX10_nameOf_99 0 rfl 100 rfl ?_
    refine z_getI F zc9 dX10_nameOf_100 rfl 16 (by decide) (by decide) (.inl m_946) rfl 103 rfl ?_
    rw [h16]
    refine z_if_ne F dX10_nameOf_103 110 (by decide) 106 rfl (fun h103 => ?_) (fun h103 => ?_)
    · skip
      refine z_iconst F dX10_nameOf_110 1 (by decide) 111 rfl ?_
      refine z_rp F dX10_nameOf_111 ?_ rfl
      rcases (show w = 0 ∨ w = 1 by omega) with rfl | rfl <;> first | (exfalso; exact h103 rfl) | (exfalso; exact absurd h103 (by decide)) | (rw [e1_121]; rfl)
    · skip
      refine z_iconst F dX10_nameOf_106 2 (by decide) 107 rfl ?_
      refine z_goto F dX10_nameOf_107 111 (by decide) ?_
      refine z_rp F dX10_nameOf_111 ?_ rfl
      rcases (show w = 0 ∨ w = 1 by omega) with rfl | rfl <;> first | (exfalso; exact h103 rfl) | (exfalso; exact absurd h103 (by decide)) | (rw [e1_121]; rfl)
  refine z_lookup F dX10_nameOf_1 (by decide +kernel) (by show Op.lookupswitch.offset [(99, 74), (101, 74), (115, 51), (118, 51), (121, 98)] _ _ = 111; rw [lv_osw (a := 99) e1_99 (by decide), lv_osw (a := 101) e1_101 (by decide), lv_osw (a := 115) e1_115 (by decide), lv_osw (a := 118) e1_118 (by decide), lv_osw (a := 121) e1_121 (by decide)]; rfl) 112 (by decide) ?_
  refine z_iconst F dX10_nameOf_112 (-1) (by decide) 113 rfl ?_
  refine z_rp F dX10_nameOf_113 ?_ rfl
  exact (nm_no x e1_99 e1_101 e1_115 e1_118 e1_121 w hw).symm
