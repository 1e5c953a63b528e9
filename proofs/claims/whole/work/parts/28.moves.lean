/-! voice, feed, move, seenAll, judge, fits -/
def aMove (μ : z_M) (s i o j n : Int32) : Op := if (0 ≤ s ∧ s < 4) ∧ 0 ≤ o ∧ o < 4 then (if μ 5 s.toNatClampNeg = 0 ∨ μ 5 o.toNatClampNeg = 0 then er μ 2 else if ¬ μ 5 s.toNatClampNeg = μ 5 o.toNatClampNeg then er μ 5 else if stR (μ 6 s.toNatClampNeg) i n ∧ stR (μ 6 o.toNatClampNeg) j n then (n, z_up μ 7 (va_cpy (μ 7) (μ 7) (24 * s.toNatClampNeg + i.toNatClampNeg) (24 * o.toNatClampNeg + j.toNatClampNeg) n.toNatClampNeg)) else er μ 1) else er μ 1
def senR (r : Rw) (g : Nat → Int32) : Nat → Rw
  | 0 => r
  | k + 1 => pU (senR r g k) k 4 (g k)
def senP (r : Rw) (g : Nat → Int32) (t : Nat) : Bool := !(decide (t < nP r) && decide (0 ≤ g t ∧ g t < nI (2 ^ nP r)))
def senT (r : Rw) (g : Nat → Int32) (q : Nat) : Nat := fstF (senP r g) q 0
def judP (r : Rw) (g : Nat → Int32) (t : Nat) : Bool := !(decide (t < nP r) && decide (g t = pO r t 2))
def judT (r : Rw) (g : Nat → Int32) (q : Nat) : Nat := fstF (judP r g) q 0
def aSeenAll (μ : z_M) (s : Int32) : Op := if 0 ≤ s ∧ s < 4 then (if μ 5 s.toNatClampNeg = 0 then er μ 2 else (nI (senT (μ 1) (fun k => μ 7 (24 * s.toNatClampNeg + k)) (μ 6 s.toNatClampNeg).toNatClampNeg), z_up μ 1 (senR (μ 1) (fun k => μ 7 (24 * s.toNatClampNeg + k)) (senT (μ 1) (fun k => μ 7 (24 * s.toNatClampNeg + k)) (μ 6 s.toNatClampNeg).toNatClampNeg)))) else er μ 1
def aJudge (μ : z_M) (s : Int32) : Op := if 0 ≤ s ∧ s < 4 then (if μ 5 s.toNatClampNeg = 0 then er μ 2 else (nI (judT (μ 1) (fun k => μ 7 (24 * s.toNatClampNeg + k)) (μ 6 s.toNatClampNeg).toNatClampNeg), μ)) else er μ 1
def aFits (μ : z_M) (s x w : Int32) : Op := if (0 ≤ s ∧ s < 4) ∧ (0 ≤ x ∧ x < μ 1 2) ∧ 0 ≤ w ∧ w ≤ 1 then (if μ 5 s.toNatClampNeg = 0 then er μ 2 else (if w = 0 then nI (fitN (μ 1) x.toNatClampNeg (fun k => μ 7 (24 * s.toNatClampNeg + k)) (μ 6 s.toNatClampNeg).toNatClampNeg) else nI (pcN (fitN (μ 1) x.toNatClampNeg (fun k => μ 7 (24 * s.toNatClampNeg + k)) (μ 6 s.toNatClampNeg).toNatClampNeg)), μ)) else er μ 1
theorem allB_congr {f g : Nat → Bool} : ∀ {n : Nat}, (∀ i, i < n → f i = g i) → allB f n = allB g n
  | 0, _ => rfl
  | n + 1, h => by
    show (allB f n && f n) = (allB g n && g n)
    rw [allB_congr (fun i hi => h i (by omega)), h n (by omega)]
theorem fit_congr {r : Rw} {i q : Nat} {g g' : Nat → Int32} (h : ∀ k, k < q → g k = g' k) : fitN r i g q = fitN r i g' q := by
  unfold fitN
  refine setOf_congr (fun j _ => ?_)
  unfold soB
  exact allB_congr (fun k hk => by rw [h k hk])
theorem Rel.knw {σ σ' μ : z_M} (h : Rel σ μ) (hs : MS [5, 7, 16] σ σ') (hn : NowR σ' (μ 1)) : Rel σ' μ := by
  refine ⟨⟨hn.1, hn.2.1, hn.2.2.2.1, hn.2.2.2.2.1, hn.2.2.2.2.2.2.2.1, h.crs.ms hs (by decide) (by decide), ⟨?_, fun k hk => ?_⟩, ⟨?_, fun k hk => ?_⟩, ?_⟩, h.2.1, h.2.2.ms hs (by decide)⟩
  · exact (congrFun (hs 21 (by decide)) 1).trans h.tap.1
  · exact (congrFun (hs 22 (by decide)) k).trans (h.tap.2 k hk)
  · exact (congrFun (hs 23 (by decide)) 1).trans h.wai.1
  · exact (congrFun (hs 24 (by decide)) k).trans (h.wai.2 k hk)
  · exact (congrFun (hs 1 (by decide)) 7).trans h.1.2.2.2.2.2.2.2.2
theorem Rel.sen {τ μ : z_M} {r : Rw} {t : Nat} {v : Int32} (h : Rel τ (z_up μ 1 r)) (ht : t < nP r) (h0 : 0 ≤ v) (h1 : v < nI (2 ^ nP r)) : Rel (z_u2 τ 9 t v) (z_up μ 1 (pU r t 4 v)) := by
  have h8 : nP r ≤ 8 := by have := h.n8; rw [up_same] at this; exact this
  have hc := h.crs
  rw [up_same] at hc
  have hv := h.vt
  rw [up_same] at hv
  have hp : 2 ^ nP r ≤ 2 ^ 8 := Nat.pow_le_pow_right (by decide) h8
  obtain ⟨s, hs, es⟩ := isP_of ⟨h0, h1⟩ (by omega)
  have := h.yrs (r' := pU r t 4 v) (σ' := z_u2 τ 9 t v) (MS.rf.u2 (by decide)) (by rw [up_same]; exact eqC.sn (by omega)) ⟨?_, ?_, ?_, fun p hp2 => ?_⟩ ⟨?_, ?_, ?_, fun p hp2 => ?_⟩
  · rw [up_up] at this; exact this
  · rw [u2_o (by decide), pU_lo (by decide)]; exact hc.1
  · rw [u2_o (by decide), pU_lo (by decide)]; exact hc.2.1
  · rw [u2_o (by decide), pU_lo (by decide)]; exact hc.2.2.1
  · rw [nP_pU, pO_pU (by decide) (by decide), u2_at]
    by_cases z : p = t
    · rw [if_pos ⟨rfl, z⟩, if_pos (by omega), if_pos ⟨z, rfl⟩]
    · rw [if_neg (show ¬ ((9 : Nat) = 9 ∧ p = t) from fun w => z w.2), if_neg (show ¬ (p = t ∧ (4 : Nat) = 4) from fun w => z w.1)]; exact hc.2.2.2 p hp2
  · rw [pU_lo (by decide)]; exact hv.1
  · rw [pU_lo (by decide)]; exact hv.2.1
  · rw [pU_lo (by decide)]; exact hv.2.2.1
  · rw [nP_pU] at hp2 ⊢
    rw [pO_pU (by decide) (by decide)]
    by_cases z : p = t
    · rw [if_pos ⟨z, rfl⟩]; exact ⟨s, hs, es⟩
    · rw [if_neg (fun w => z w.1)]; exact hv.2.2.2 p hp2
theorem sen_n {r : Rw} {g : Nat → Int32} : ∀ k, nP (senR r g k) = nP r
  | 0 => rfl
  | k + 1 => by show nP (pU _ _ _ _) = _; rw [nP_pU]; exact sen_n k
set_option maxHeartbeats 1000000 in
set_option maxRecDepth 10000 in
theorem kX9_voice {l : Launch} {E : z_E} (σ : z_M) {μ : z_M} (hR : Rel σ μ) (x : Int32) (v : Int32) (y : Int32)  : z_C l E shC 33 yX9_voice cX9_voice 5 (some FieldType.int) [.ref (z_ad E 0), .int x, .int v, .int y] σ (z_Pi (fun rv σ' => rv = (aVoice μ x v y).1 ∧ Rel σ' (aVoice μ x v y).2)) := by
  refine z_intro iX9_voice (Nat.le_of_ble_eq_true rfl) (fun K F => ?_)
  have hc : σ 2 0 = μ 1 2 := hR.1.1.1
  have hn : μ 1 2 = nI (nP (μ 1)) := hR.2.1.1.1
  have h8 : nP (μ 1) ≤ 8 := hR.n8
  refine z_aload_n F dX9_voice_0 0 rfl 1 rfl ?_
  refine z_getR F zc8 dX9_voice_1 rfl 0 (by decide) (by decide) (.inl m_302) rfl (by decide) 4 rfl ?_
  refine z_getR F zc7 dX9_voice_4 rfl 0 (by decide) (by decide) (.inr ⟨_, m_200⟩) rfl (by decide) 7 rfl ?_
  refine z_iload_n F dX9_voice_7 1 rfl 8 rfl ?_
  refine z_callVp F dX9_voice_8 m_370 iX1_has jX1_has rfl zc1 rfl (kX1_has σ _) rfl (by decide) (Nat.le_of_ble_eq_true rfl) 11 rfl ?_
  refine z_if_eq F dX9_voice_11 21 (by decide) 14 rfl (fun h11 => ?_) (fun h11 => ?_)
  · skip
    have h11 := bI0.mp h11
    refine z_aload_n F dX9_voice_21 0 rfl 22 rfl ?_
    refine z_iconst F dX9_voice_22 1 (by decide) 23 rfl ?_
    refine z_callVi F dX9_voice_23 m_334 iX9_fail jX9_fail rfl zc8 rfl (kX9_fail σ (k := 1) (by decide) (by decide)) rfl (by decide) (Nat.le_of_ble_eq_true rfl) 26 rfl (fun r23 s23 c23 => ?_)
    refine z_ri F dX9_voice_26 ?_
    obtain ⟨rfl, rfl⟩ := c23
    exact fin (by
      unfold aVoice
      (repeat' split) <;> first | rfl | contradiction | (exfalso; simp only [Int32.lt_iff_toInt_lt, Int32.le_iff_toInt_le, ← Int32.toInt_inj, Int32.reduceToInt] at *; omega)) (hR.fail (by decide) (by decide))
  · skip
    have h11 := bI1.mp h11
    refine z_iload_n F dX9_voice_14 2 rfl 15 rfl ?_
    refine z_callSp F dX9_voice_15 m_795 iX7_isVoice m_796 rfl (kX7_isVoice σ v) rfl (by decide) (Nat.le_of_ble_eq_true rfl) 18 rfl ?_
    refine z_if_ne F dX9_voice_18 27 (by decide) 21 rfl (fun h18 => ?_) (fun h18 => ?_)
    · skip
      have h18 := bI1.mp h18
      obtain ⟨i, hi, rfl⟩ := isP_of (n := nP (μ 1)) (hn ▸ hc ▸ h11) (by omega)
      have i31 : i < 2 ^ 31 := by omega
      obtain ⟨V, hV, rfl⟩ : ∃ V, V < 4 ∧ v = nI V := isP_of (n := 4) h18 (by decide)
      obtain ⟨⟨kd, hkd, ekd⟩, -⟩ := hR.vk.2.2 i hi
      have V31 : V < 2 ^ 31 := by omega
      refine z_aload_n F dX9_voice_27 0 rfl 28 rfl ?_
      refine z_getR F zc8 dX9_voice_28 rfl 4 (by decide) (by decide) (.inl m_306) rfl (by decide) 31 rfl ?_
      refine z_aload_n F dX9_voice_31 0 rfl 32 rfl ?_
      refine z_getR F zc8 dX9_voice_32 rfl 0 (by decide) (by decide) (.inl m_302) rfl (by decide) 35 rfl ?_
      refine z_getR F zc7 dX9_voice_35 rfl 0 (by decide) (by decide) (.inr ⟨_, m_200⟩) rfl (by decide) 38 rfl ?_
      refine z_getR F zc1 dX9_voice_38 rfl 1 (by decide) (by decide) (.inr ⟨_, m_114⟩) rfl (by decide) 41 rfl ?_
      refine z_iload_n F dX9_voice_41 1 rfl 42 rfl ?_
      refine z_iald F dX9_voice_42 rfl (vp_in_nI (by omega) (by decide)) 43 rfl ?_
      rw [nI_clamp i31, show σ 3 i = nI kd from ((kin1.mp hR.1.1).2 i hi).1.trans ekd]
      refine z_iload_n F dX9_voice_43 1 rfl 44 rfl ?_
      refine z_aload_n F dX9_voice_44 0 rfl 45 rfl ?_
      refine z_getR F zc8 dX9_voice_45 rfl 0 (by decide) (by decide) (.inl m_302) rfl (by decide) 48 rfl ?_
      refine z_getR F zc7 dX9_voice_48 rfl 0 (by decide) (by decide) (.inr ⟨_, m_200⟩) rfl (by decide) 51 rfl ?_
      refine z_getR F zc1 dX9_voice_51 rfl 2 (by decide) (by decide) (.inr ⟨_, m_117⟩) rfl (by decide) 54 rfl ?_
      refine z_iload_n F dX9_voice_54 1 rfl 55 rfl ?_
      refine z_iald F dX9_voice_55 rfl (vp_in_nI (by omega) (by decide)) 56 rfl ?_
      rw [nI_clamp i31, show σ 4 i = pO (μ 1) i 1 from ((kin1.mp hR.1.1).2 i hi).2.1]
      refine z_callVv F dX9_voice_56 m_798 iX7_begin jX7_begin rfl zc6 rfl (kX7_begin σ (K := kd)) rfl (by decide) (Nat.le_of_ble_eq_true rfl) 59 rfl (fun s56 c56 => ?_)
      refine z_aload_n F dX9_voice_59 0 rfl 60 rfl ?_
      refine z_getR F zc8 dX9_voice_60 rfl 4 (by decide) (by decide) (.inl m_306) rfl (by decide) 63 rfl ?_
      refine z_iload_n F dX9_voice_63 2 rfl 64 rfl ?_
      refine z_iload_n F dX9_voice_64 3 rfl 65 rfl ?_
      refine z_callVi F dX9_voice_65 m_803 iX7_speak jX7_speak rfl zc6 rfl (kX7_speak s56 hkd (V := V) (by omega) (vo_ok kd hkd V (by omega) _ _ y) (vo_len _ _ _ _) c56.2) rfl (by decide) (Nat.le_of_ble_eq_true rfl) 68 rfl (fun r65 s65 c65 => ?_)
      have hR2 := hR.trace ((c56.1.sub (show ∀ o, o ∈ [54, 55] → o ∈ [54, 55, 56] by decide)).tr c65.2.1) c65.2.2
      have ep := c65.2.2.1.2.2.2
      rw [c65.1]
      refine z_istore F dX9_voice_68 [(0, _), (1, _), (2, _), (3, _), (4, _)] rfl (by decide) 70 rfl ?_
      refine z_aload_n F dX9_voice_70 0 rfl 71 rfl ?_
      refine z_getR F zc8 dX9_voice_71 rfl 4 (by decide) (by decide) (.inl m_306) rfl (by decide) 74 rfl ?_
      refine z_getI F zc6 dX9_voice_74 rfl 4 (by decide) (by decide) (.inr ⟨_, m_272⟩) rfl 77 rfl ?_
      rw [ep]
      refine z_if_eq F dX9_voice_77 89 (by decide) 80 rfl (fun h77 => ?_) (fun h77 => ?_)
      · skip
        refine z_iload F dX9_voice_89 4 rfl 91 rfl ?_
        refine z_ri F dX9_voice_91 ?_
        have ht : voT (nI i) (pO (μ 1) i 1) V = false := by
          cases e : voT (nI i) (pO (μ 1) i 1) V
          · rfl
          · rw [e] at h77; exact absurd h77 (by decide)
        refine fin ?_ hR2
        unfold aVoice
        rw [nI_clamp i31, nI_clamp V31, ekd, nI_clamp (show kd < 2 ^ 31 by omega), if_pos ⟨⟨h11.1, hc ▸ h11.2⟩, h18⟩, if_neg (by rw [ht]; decide)]
      · skip
        refine z_aload_n F dX9_voice_80 0 rfl 81 rfl ?_
        refine z_bipush F dX9_voice_81 6 (by decide) 83 rfl ?_
        refine z_callVi F dX9_voice_83 m_334 iX9_fail jX9_fail rfl zc8 rfl (kX9_fail s65 (k := 6) (by decide) (by decide)) rfl (by decide) (Nat.le_of_ble_eq_true rfl) 86 rfl (fun r83 s83 c83 => ?_)
        refine z_goto F dX9_voice_86 91 (by decide) ?_
        refine z_ri F dX9_voice_91 ?_
        have ht : voT (nI i) (pO (μ 1) i 1) V = true := by
          cases e : voT (nI i) (pO (μ 1) i 1) V
          · exact absurd (by rw [e]; rfl) h77
          · rfl
        obtain ⟨rfl, rfl⟩ := c83
        refine fin ?_ (hR2.fail (by decide) (by decide))
        unfold aVoice
        rw [nI_clamp i31, nI_clamp V31, ekd, nI_clamp (show kd < 2 ^ 31 by omega), if_pos ⟨⟨h11.1, hc ▸ h11.2⟩, h18⟩, if_pos ht]
        rfl
    · skip
      have h18 := bI0.mp h18
      refine z_aload_n F dX9_voice_21 0 rfl 22 rfl ?_
      refine z_iconst F dX9_voice_22 1 (by decide) 23 rfl ?_
      refine z_callVi F dX9_voice_23 m_334 iX9_fail jX9_fail rfl zc8 rfl (kX9_fail σ (k := 1) (by decide) (by decide)) rfl (by decide) (Nat.le_of_ble_eq_true rfl) 26 rfl (fun r23 s23 c23 => ?_)
      refine z_ri F dX9_voice_26 ?_
      obtain ⟨rfl, rfl⟩ := c23
      exact fin (by
        unfold aVoice
        (repeat' split) <;> first | rfl | contradiction | (exfalso; simp only [Int32.lt_iff_toInt_lt, Int32.le_iff_toInt_le, ← Int32.toInt_inj, Int32.reduceToInt] at *; omega)) (hR.fail (by decide) (by decide))
set_option maxHeartbeats 1000000 in
set_option maxRecDepth 10000 in
theorem kX9_feed {l : Launch} {E : z_E} (σ : z_M) {μ : z_M} (hR : Rel σ μ) (w : Int64) (n : Int32)  : z_C l E shC 1 yX9_feed cX9_feed 5 (some FieldType.int) [.ref (z_ad E 0), .long w, .int n] σ (z_Pi (fun rv σ' => rv = (aFeed μ w n).1 ∧ Rel σ' (aFeed μ w n).2)) := by
  refine z_intro iX9_feed (Nat.le_of_ble_eq_true rfl) (fun K F => ?_)
  have hc : σ 2 0 = μ 1 2 := hR.1.1.1
  have hn : μ 1 2 = nI (nP (μ 1)) := hR.2.1.1.1
  have h8 : nP (μ 1) ≤ 8 := hR.n8
  have loop40 : ∀ (f : Nat) (m i : Nat) (τ : z_M) (_ : 8 < i + f) (_ : i ≤ m) (_ : m < 9) (_ : tN (μ 1) + m ≤ 60) (_ : MS [21, 22] σ τ) (_ : TapR τ 1 (fedR w (μ 1) i)) (_ : VX (μ 1)) (_ : aFeed μ w (nI m) = (nI (tN (μ 1) + m), z_up μ 1 (fedR w (μ 1) m))), z_X l K E shC 1 5 (z_Pi (fun rv σ' => rv = (aFeed μ w (nI m)).1 ∧ Rel σ' (aFeed μ w (nI m)).2)) 40 [(0, .ref (z_ad E 0)), (1, .long w), (3, .int (nI m)), (4, .int (nI i))] [] τ := by
    intro f
    induction f with
    | zero =>
      intro m i τ hf him hm hroom hs htp hx eop
      omega
    | succ f ih =>
      intro m i τ hf him hm hroom hs htp hx eop
      have e5 : τ 21 1 = nI (tN (μ 1) + i) := htp.1.trans (fed_5 hx i)
      refine z_iload F dX9_feed_40 3 rfl 42 rfl ?_
      refine z_iload_n F dX9_feed_42 2 rfl 43 rfl ?_
      refine z_icmp_ge F dX9_feed_43 74 (by decide) 46 rfl (fun h43 => ?_) (fun h43 => ?_)
      · skip
        refine z_aload_n F dX9_feed_74 0 rfl 75 rfl ?_
        refine z_getR F zc8 dX9_feed_75 rfl 0 (by decide) (by decide) (.inl m_302) rfl (by decide) 78 rfl ?_
        refine z_getR F zc7 dX9_feed_78 rfl 5 (by decide) (by decide) (.inr ⟨_, m_209⟩) rfl (by decide) 81 rfl ?_
        refine z_callVp F dX9_feed_81 m_503 iX4_size jX4_size rfl zc3 rfl (kX4_size τ (S := shC) (r := 21) (a := 22) (cap := 60) rfl rfl (by decide)) rfl (by decide) (Nat.le_of_ble_eq_true rfl) 84 rfl ?_
        refine z_ri F dX9_feed_84 ?_
        have him2 : i = m := by have := le_nI h43 (by omega) (by omega); omega
        subst him2
        rw [e5]
        refine fin eop (hR.tape (hs.sub (by decide)) (fun k h1 h2 => fed_out hroom h1 (by omega)) htp (fed_X hx hroom))
      · skip
        have him2 : i < m := nle_nI h43 (by omega) (by omega)
        refine z_aload_n F dX9_feed_46 0 rfl 47 rfl ?_
        refine z_getR F zc8 dX9_feed_47 rfl 0 (by decide) (by decide) (.inl m_302) rfl (by decide) 50 rfl ?_
        refine z_getR F zc7 dX9_feed_50 rfl 5 (by decide) (by decide) (.inr ⟨_, m_209⟩) rfl (by decide) 53 rfl ?_
        refine z_lload_n F dX9_feed_53 1 rfl 54 rfl ?_
        refine z_bipush F dX9_feed_54 8 (by decide) 56 rfl ?_
        refine z_iload F dX9_feed_56 3 rfl 58 rfl ?_
        refine z_imul F dX9_feed_58 59 rfl ?_
        refine z_lushr F dX9_feed_59 60 rfl ?_
        refine z_l2i F dX9_feed_60 61 rfl ?_
        refine z_sipush F dX9_feed_61 255 (by decide) 64 rfl ?_
        refine z_iand F dX9_feed_64 65 rfl ?_
        refine z_callVu F dX9_feed_65 m_499 iX4_add jX4_add rfl zc3 rfl (kX4_add τ (S := shC) (r := 21) (a := 22) (cap := 60) rfl rfl (by decide) (n := tN (μ 1) + i) e5 (by omega) (by decide) _) rfl (by decide) (Nat.le_of_ble_eq_true rfl) 68 rfl ?_
        rw [if_pos (show tN (μ 1) + i < 60 by omega)]
        refine z_iinc F dX9_feed_68 3 rfl 1 (by decide) [(0, _), (1, _), (3, _), (4, _)] rfl (by decide) 71 rfl ?_
        refine z_goto F dX9_feed_71 40 (by decide) ?_
        rw [nI_1]
        refine ih m (i + 1) _ (by omega) (by omega) hm hroom ((hs.u2 (by decide)).u2 (by decide)) ⟨?_, fun k hk => ?_⟩ hx eop
        · rw [fed_5 hx]; exact u2_same
        · rw [fed_t hx (by omega)] at hk
          show z_u2 (z_u2 τ 22 _ _) 21 1 _ 22 k = upd (upd (fedR w (μ 1) i) _ _) 5 _ (59 + k)
          rw [u2_o (by decide), u2_at, upd_at, if_neg (show ¬ 59 + k = 5 by omega), upd_at]
          by_cases z : k = tN (μ 1) + i
          · rw [if_pos ⟨rfl, z⟩, if_pos (by omega)]; rfl
          · rw [if_neg (fun y => z y.2), if_neg (by omega)]; exact htp.2 k (by rw [fed_t hx (by omega)]; omega)
  have hx := hR.vx
  have htp := hR.tap
  have e5 : σ 21 1 = nI (tN (μ 1)) := htp.1.trans hx.1
  have t60 := hx.2.1
  refine z_iload_n F dX9_feed_0 2 rfl 1 rfl ?_
  refine z_iconst F dX9_feed_1 1 (by decide) 2 rfl ?_
  refine z_icmp_lt F dX9_feed_2 11 (by decide) 5 rfl (fun h2 => ?_) (fun h2 => ?_)
  · skip
    refine z_aload_n F dX9_feed_11 0 rfl 12 rfl ?_
    refine z_iconst F dX9_feed_12 1 (by decide) 13 rfl ?_
    refine z_callVi F dX9_feed_13 m_334 iX9_fail jX9_fail rfl zc8 rfl (kX9_fail σ (k := 1) (by decide) (by decide)) rfl (by decide) (Nat.le_of_ble_eq_true rfl) 16 rfl (fun r13 s13 c13 => ?_)
    refine z_ri F dX9_feed_16 ?_
    obtain ⟨rfl, rfl⟩ := c13
    exact fin (by
      unfold aFeed
      (repeat' split) <;> first | rfl | contradiction | (exfalso; simp only [Int32.lt_iff_toInt_lt, Int32.le_iff_toInt_le, ← Int32.toInt_inj, Int32.reduceToInt] at *; omega)) (hR.fail (by decide) (by decide))
  · skip
    refine z_iload_n F dX9_feed_5 2 rfl 6 rfl ?_
    refine z_bipush F dX9_feed_6 8 (by decide) 8 rfl ?_
    refine z_icmp_le F dX9_feed_8 17 (by decide) 11 rfl (fun h8 => ?_) (fun h8 => ?_)
    · skip
      refine z_aload_n F dX9_feed_17 0 rfl 18 rfl ?_
      refine z_getR F zc8 dX9_feed_18 rfl 0 (by decide) (by decide) (.inl m_302) rfl (by decide) 21 rfl ?_
      refine z_getR F zc7 dX9_feed_21 rfl 5 (by decide) (by decide) (.inr ⟨_, m_209⟩) rfl (by decide) 24 rfl ?_
      refine z_iload_n F dX9_feed_24 2 rfl 25 rfl ?_
      refine z_callVp F dX9_feed_25 m_495 iX4_hasRoom jX4_hasRoom rfl zc3 rfl (kX4_hasRoom σ (S := shC) (r := 21) (a := 22) (cap := 60) rfl rfl (by decide) _) rfl (by decide) (Nat.le_of_ble_eq_true rfl) 28 rfl ?_
      refine z_if_ne F dX9_feed_28 37 (by decide) 31 rfl (fun h28 => ?_) (fun h28 => ?_)
      · skip
        have h28 := bI1.mp h28
        obtain ⟨m, hm, rfl⟩ : ∃ m, m < 9 ∧ n = nI m := isP_of (n := 9) ⟨by show 0 ≤ n; simp only [Int32.lt_iff_toInt_lt, Int32.le_iff_toInt_le, ← Int32.toInt_inj, Int32.reduceToInt] at *; omega, by show n < 9; simp only [Int32.lt_iff_toInt_lt, Int32.le_iff_toInt_le, ← Int32.toInt_inj, Int32.reduceToInt] at *; omega⟩ (by decide)
        have m31 : m < 2 ^ 31 := by omega
        have hroom : tN (μ 1) + m ≤ 60 := by
          have h3 : nI m ≤ nI 60 - nI (tN (μ 1)) := e5 ▸ h28
          rw [pk_sub t60] at h3
          have := le_nI h3 (by omega) (by omega); omega
        refine z_iconst F dX9_feed_37 0 (by decide) 38 rfl ?_
        refine z_istore F dX9_feed_38 [(0, _), (1, _), (3, _), (4, _)] rfl (by decide) 40 rfl ?_
        refine loop40 9 m 0 σ (by omega) (by omega) (by omega) hroom MS.rf htp hx ?_
        unfold aFeed
        rw [if_pos ⟨by simp only [Int32.lt_iff_toInt_lt, Int32.le_iff_toInt_le, ← Int32.toInt_inj, Int32.reduceToInt] at *; omega, by simp only [Int32.lt_iff_toInt_lt, Int32.le_iff_toInt_le, ← Int32.toInt_inj, Int32.reduceToInt] at *; omega⟩, if_pos (by rw [hx.1, ← e5]; exact h28), nI_clamp m31]
      · skip
        have h28 := bI0.mp h28
        refine z_aload_n F dX9_feed_31 0 rfl 32 rfl ?_
        refine z_iconst F dX9_feed_32 4 (by decide) 33 rfl ?_
        refine z_callVi F dX9_feed_33 m_334 iX9_fail jX9_fail rfl zc8 rfl (kX9_fail σ (k := 4) (by decide) (by decide)) rfl (by decide) (Nat.le_of_ble_eq_true rfl) 36 rfl (fun r33 s33 c33 => ?_)
        refine z_ri F dX9_feed_36 ?_
        obtain ⟨rfl, rfl⟩ := c33
        exact fin (by unfold aFeed; rw [if_pos ⟨by simp only [Int32.lt_iff_toInt_lt, Int32.le_iff_toInt_le, ← Int32.toInt_inj, Int32.reduceToInt] at *; omega, by simp only [Int32.lt_iff_toInt_lt, Int32.le_iff_toInt_le, ← Int32.toInt_inj, Int32.reduceToInt] at *; omega⟩, if_neg (by rw [hx.1, ← e5]; exact h28)]; rfl) (hR.fail (by decide) (by decide))
    · skip
      refine z_aload_n F dX9_feed_11 0 rfl 12 rfl ?_
      refine z_iconst F dX9_feed_12 1 (by decide) 13 rfl ?_
      refine z_callVi F dX9_feed_13 m_334 iX9_fail jX9_fail rfl zc8 rfl (kX9_fail σ (k := 1) (by decide) (by decide)) rfl (by decide) (Nat.le_of_ble_eq_true rfl) 16 rfl (fun r13 s13 c13 => ?_)
      refine z_ri F dX9_feed_16 ?_
      obtain ⟨rfl, rfl⟩ := c13
      exact fin (by
        unfold aFeed
        (repeat' split) <;> first | rfl | contradiction | (exfalso; simp only [Int32.lt_iff_toInt_lt, Int32.le_iff_toInt_le, ← Int32.toInt_inj, Int32.reduceToInt] at *; omega)) (hR.fail (by decide) (by decide))
set_option maxHeartbeats 2000000 in
set_option maxRecDepth 10000 in
theorem kX9_move {l : Launch} {E : z_E} (σ : z_M) {μ : z_M} (hR : Rel σ μ) (s : Int32) (i : Int32) (o : Int32) (j : Int32) (n : Int32)  : z_C l E shC 3 yX9_move cX9_move 6 (some FieldType.int) [.ref (z_ad E 0), .int s, .int i, .int o, .int j, .int n] σ (z_Pi (fun rv σ' => rv = (aMove μ s i o j n).1 ∧ Rel σ' (aMove μ s i o j n).2)) := by
  refine z_intro iX9_move (Nat.le_of_ble_eq_true rfl) (fun K F => ?_)
  have hc : σ 2 0 = μ 1 2 := hR.1.1.1
  have hn : μ 1 2 = nI (nP (μ 1)) := hR.2.1.1.1
  have h8 : nP (μ 1) ≤ 8 := hR.n8
  refine z_iload_n F dX9_move_0 1 rfl 1 rfl ?_
  refine z_callSp F dX9_move_1 m_773 iX9_isSheet m_774 rfl (kX9_isSheet σ _) rfl (by decide) (Nat.le_of_ble_eq_true rfl) 4 rfl ?_
  refine z_if_eq F dX9_move_4 14 (by decide) 7 rfl (fun h4 => ?_) (fun h4 => ?_)
  · skip
    have h4 := bI0.mp h4
    refine z_aload_n F dX9_move_14 0 rfl 15 rfl ?_
    refine z_iconst F dX9_move_15 1 (by decide) 16 rfl ?_
    refine z_callVi F dX9_move_16 m_334 iX9_fail jX9_fail rfl zc8 rfl (kX9_fail σ (k := 1) (by decide) (by decide)) rfl (by decide) (Nat.le_of_ble_eq_true rfl) 19 rfl (fun r16 s16 c16 => ?_)
    refine z_ri F dX9_move_19 ?_
    obtain ⟨rfl, rfl⟩ := c16
    exact fin (by
      unfold aMove
      (repeat' split) <;> first | rfl | contradiction | (exfalso; simp only [Int32.lt_iff_toInt_lt, Int32.le_iff_toInt_le, ← Int32.toInt_inj, Int32.reduceToInt] at *; omega)) (hR.fail (by decide) (by decide))
  · skip
    have h4 := bI1.mp h4
    refine z_iload_n F dX9_move_7 3 rfl 8 rfl ?_
    refine z_callSp F dX9_move_8 m_773 iX9_isSheet m_774 rfl (kX9_isSheet σ _) rfl (by decide) (Nat.le_of_ble_eq_true rfl) 11 rfl ?_
    refine z_if_ne F dX9_move_11 20 (by decide) 14 rfl (fun h11 => ?_) (fun h11 => ?_)
    · skip
      have h11 := bI1.mp h11
      obtain ⟨q, hq, rfl⟩ : ∃ q, q < 4 ∧ s = nI q := isP_of (n := 4) h4 (by decide)
      have q31 : q < 2 ^ 31 := by omega
      obtain ⟨hso, hro, haa⟩ := shS q hq
      have hr9 : 59 + 3 * q ≠ 999 := by omega
      have ha9 : 60 + 3 * q ≠ 999 := by omega
      have hsh := hR.sh hq
      obtain ⟨q2, hq2, rfl⟩ : ∃ q2, q2 < 4 ∧ o = nI q2 := isP_of (n := 4) h11 (by decide)
      have q231 : q2 < 2 ^ 31 := by omega
      obtain ⟨hso2, hro2, haa2⟩ := shS q2 hq2
      have hr92 : 59 + 3 * q2 ≠ 999 := by omega
      have ha92 : 60 + 3 * q2 ≠ 999 := by omega
      have hsh2 := hR.sh hq2
      refine z_aload_n F dX9_move_20 0 rfl 21 rfl ?_
      refine z_getR F zc8 dX9_move_21 rfl 5 (by decide) (by decide) (.inl m_307) rfl (by decide) 24 rfl ?_
      refine z_iload_n F dX9_move_24 1 rfl 25 rfl ?_
      refine z_aaldS F dX9_move_25 rfl (vp_in_nI hq (by decide)) (by rw [nI_clamp q31]; exact shR q hq) 26 rfl ?_
      refine z_callVp F dX9_move_26 m_776 iX5_isMissing jX5_isMissing rfl zc4 hso (kX5_isMissing σ hso hro haa hr9 ha9) rfl (by decide) (Nat.le_of_ble_eq_true rfl) 29 rfl ?_
      rw [hsh.1]
      refine z_if_ne F dX9_move_29 44 (by decide) 32 rfl (fun h29 => ?_) (fun h29 => ?_)
      · skip
        have h29 := bI1.mp h29
        refine z_aload_n F dX9_move_44 0 rfl 45 rfl ?_
        refine z_iconst F dX9_move_45 2 (by decide) 46 rfl ?_
        refine z_callVi F dX9_move_46 m_334 iX9_fail jX9_fail rfl zc8 rfl (kX9_fail σ (k := 2) (by decide) (by decide)) rfl (by decide) (Nat.le_of_ble_eq_true rfl) 49 rfl (fun r46 s46 c46 => ?_)
        refine z_ri F dX9_move_49 ?_
        obtain ⟨rfl, rfl⟩ := c46
        exact fin (by unfold aMove; rw [nI_clamp q31, nI_clamp q231, if_pos ⟨h4, h11⟩, if_pos (Or.inl h29)]; rfl) (hR.fail (by decide) (by decide))
      · skip
        have h29 := bI0.mp h29
        refine z_aload_n F dX9_move_32 0 rfl 33 rfl ?_
        refine z_getR F zc8 dX9_move_33 rfl 5 (by decide) (by decide) (.inl m_307) rfl (by decide) 36 rfl ?_
        refine z_iload_n F dX9_move_36 3 rfl 37 rfl ?_
        refine z_aaldS F dX9_move_37 rfl (vp_in_nI hq2 (by decide)) (by rw [nI_clamp q231]; exact shR q2 hq2) 38 rfl ?_
        refine z_callVp F dX9_move_38 m_776 iX5_isMissing jX5_isMissing rfl zc4 hso2 (kX5_isMissing σ hso2 hro2 haa2 hr92 ha92) rfl (by decide) (Nat.le_of_ble_eq_true rfl) 41 rfl ?_
        rw [hsh2.1]
        refine z_if_eq F dX9_move_41 50 (by decide) 44 rfl (fun h41 => ?_) (fun h41 => ?_)
        · skip
          have h41 := bI0.mp h41
          refine z_aload_n F dX9_move_50 0 rfl 51 rfl ?_
          refine z_getR F zc8 dX9_move_51 rfl 5 (by decide) (by decide) (.inl m_307) rfl (by decide) 54 rfl ?_
          refine z_iload_n F dX9_move_54 1 rfl 55 rfl ?_
          refine z_aaldS F dX9_move_55 rfl (vp_in_nI hq (by decide)) (by rw [nI_clamp q31]; exact shR q hq) 56 rfl ?_
          refine z_getI F zc4 dX9_move_56 hso 1 (by decide) (by decide) (.inr ⟨_, m_296⟩) rfl 59 rfl ?_
          refine z_aload_n F dX9_move_59 0 rfl 60 rfl ?_
          refine z_getR F zc8 dX9_move_60 rfl 5 (by decide) (by decide) (.inl m_307) rfl (by decide) 63 rfl ?_
          refine z_iload_n F dX9_move_63 3 rfl 64 rfl ?_
          refine z_aaldS F dX9_move_64 rfl (vp_in_nI hq2 (by decide)) (by rw [nI_clamp q231]; exact shR q2 hq2) 65 rfl ?_
          refine z_getI F zc4 dX9_move_65 hso2 1 (by decide) (by decide) (.inr ⟨_, m_296⟩) rfl 68 rfl ?_
          rw [hsh.1, hsh2.1]
          refine z_icmp_eq F dX9_move_68 77 (by decide) 71 rfl (fun h68 => ?_) (fun h68 => ?_)
          · skip
            refine z_aload_n F dX9_move_77 0 rfl 78 rfl ?_
            refine z_getR F zc8 dX9_move_78 rfl 5 (by decide) (by decide) (.inl m_307) rfl (by decide) 81 rfl ?_
            refine z_iload_n F dX9_move_81 1 rfl 82 rfl ?_
            refine z_aaldS F dX9_move_82 rfl (vp_in_nI hq (by decide)) (by rw [nI_clamp q31]; exact shR q hq) 83 rfl ?_
            refine z_getR F zc4 dX9_move_83 hso 0 (by decide) (by decide) (.inr ⟨_, m_294⟩) rfl hr9 86 rfl ?_
            refine z_iload_n F dX9_move_86 2 rfl 87 rfl ?_
            refine z_iload F dX9_move_87 5 rfl 89 rfl ?_
            refine z_callVp F dX9_move_89 m_871 iX4_stand jX4_stand rfl zc3 hro (kX4_stand σ (S := shC) (r := 59 + 3 * q) (a := 60 + 3 * q) (cap := 24) hro haa ha9 (n := hsh.2.2.1.choose) (hsh.2.1.trans hsh.2.2.1.choose_spec.2.1) hsh.2.2.1.choose_spec.1 (by decide) i n) rfl (by decide) (Nat.le_of_ble_eq_true rfl) 92 rfl ?_
            rw [hsh.2.1]
            refine z_if_eq F dX9_move_92 114 (by decide) 95 rfl (fun h92 => ?_) (fun h92 => ?_)
            · skip
              have h92 := bI0.mp h92
              refine z_aload_n F dX9_move_114 0 rfl 115 rfl ?_
              refine z_iconst F dX9_move_115 1 (by decide) 116 rfl ?_
              refine z_callVi F dX9_move_116 m_334 iX9_fail jX9_fail rfl zc8 rfl (kX9_fail σ (k := 1) (by decide) (by decide)) rfl (by decide) (Nat.le_of_ble_eq_true rfl) 119 rfl (fun r116 s116 c116 => ?_)
              refine z_ri F dX9_move_119 ?_
              obtain ⟨rfl, rfl⟩ := c116
              exact fin (by unfold aMove; rw [nI_clamp q31, nI_clamp q231, if_pos ⟨h4, h11⟩, if_neg (fun z => z.elim h29 h41), if_neg (fun z => z h68), if_neg (fun z => h92 z.1)]; rfl) (hR.fail (by decide) (by decide))
            · skip
              have h92 := bI1.mp h92
              refine z_aload_n F dX9_move_95 0 rfl 96 rfl ?_
              refine z_getR F zc8 dX9_move_96 rfl 5 (by decide) (by decide) (.inl m_307) rfl (by decide) 99 rfl ?_
              refine z_iload_n F dX9_move_99 3 rfl 100 rfl ?_
              refine z_aaldS F dX9_move_100 rfl (vp_in_nI hq2 (by decide)) (by rw [nI_clamp q231]; exact shR q2 hq2) 101 rfl ?_
              refine z_getR F zc4 dX9_move_101 hso2 0 (by decide) (by decide) (.inr ⟨_, m_294⟩) rfl hr92 104 rfl ?_
              refine z_iload F dX9_move_104 4 rfl 106 rfl ?_
              refine z_iload F dX9_move_106 5 rfl 108 rfl ?_
              refine z_callVp F dX9_move_108 m_871 iX4_stand jX4_stand rfl zc3 hro2 (kX4_stand σ (S := shC) (r := 59 + 3 * q2) (a := 60 + 3 * q2) (cap := 24) hro2 haa2 ha92 (n := hsh2.2.2.1.choose) (hsh2.2.1.trans hsh2.2.2.1.choose_spec.2.1) hsh2.2.2.1.choose_spec.1 (by decide) j n) rfl (by decide) (Nat.le_of_ble_eq_true rfl) 111 rfl ?_
              rw [hsh2.2.1]
              refine z_if_ne F dX9_move_111 120 (by decide) 114 rfl (fun h111 => ?_) (fun h111 => ?_)
              · skip
                have h111 := bI1.mp h111
                obtain ⟨u, hu, eu, hu2⟩ := hsh.2.2.1
                obtain ⟨u2, hu3, eu2, hu4⟩ := hsh2.2.2.1
                have er1 : σ (59 + 3 * q) 1 = nI u := hsh.2.1.trans eu
                have er2 : σ (59 + 3 * q2) 1 = nI u2 := hsh2.2.1.trans eu2
                obtain ⟨m, hm, rfl⟩ : ∃ m, m < 2 ^ 31 ∧ n = nI m := nI_of (i_nlt.mpr h92.2.1)
                obtain ⟨a, ha, rfl⟩ : ∃ a, a < 2 ^ 31 ∧ i = nI a := nI_of (i_nlt.mpr h92.1)
                obtain ⟨b, hb, rfl⟩ : ∃ b, b < 2 ^ 31 ∧ j = nI b := nI_of (i_nlt.mpr h111.1)
                have l1 : a ≤ u := le_nI (eu ▸ h92.2.2.1) ha (by omega)
                have l2 : b ≤ u2 := le_nI (eu2 ▸ h111.2.2.1) hb (by omega)
                have l3 : a + m ≤ u := by
                  have h3 := h92.2.2.2
                  rw [eu, pk_sub l1] at h3
                  have := le_nI h3 hm (by omega); omega
                have l4 : b + m ≤ u2 := by
                  have h3 := h111.2.2.2
                  rw [eu2, pk_sub l2] at h3
                  have := le_nI h3 hm (by omega); omega
                refine z_aload_n F dX9_move_120 0 rfl 121 rfl ?_
                refine z_getR F zc8 dX9_move_121 rfl 5 (by decide) (by decide) (.inl m_307) rfl (by decide) 124 rfl ?_
                refine z_iload_n F dX9_move_124 3 rfl 125 rfl ?_
                refine z_aaldS F dX9_move_125 rfl (vp_in_nI hq2 (by decide)) (by rw [nI_clamp q231]; exact shR q2 hq2) 126 rfl ?_
                refine z_getR F zc4 dX9_move_126 hso2 0 (by decide) (by decide) (.inr ⟨_, m_294⟩) rfl hr92 129 rfl ?_
                refine z_iload F dX9_move_129 4 rfl 131 rfl ?_
                refine z_aload_n F dX9_move_131 0 rfl 132 rfl ?_
                refine z_getR F zc8 dX9_move_132 rfl 5 (by decide) (by decide) (.inl m_307) rfl (by decide) 135 rfl ?_
                refine z_iload_n F dX9_move_135 1 rfl 136 rfl ?_
                refine z_aaldS F dX9_move_136 rfl (vp_in_nI hq (by decide)) (by rw [nI_clamp q31]; exact shR q hq) 137 rfl ?_
                refine z_getR F zc4 dX9_move_137 hso 0 (by decide) (by decide) (.inr ⟨_, m_294⟩) rfl hr9 140 rfl ?_
                refine z_iload_n F dX9_move_140 2 rfl 141 rfl ?_
                refine z_iload F dX9_move_141 5 rfl 143 rfl ?_
                refine z_callVu F dX9_move_143 m_875 iX4_take jX4_take rfl zc3 hro2 (kX4_take σ (S := shC) (r := 59 + 3 * q2) (a := 60 + 3 * q2) (cap := 24) hro2 haa2 ha92 (r2 := 59 + 3 * q) (a2 := 60 + 3 * q) (cap2 := 24) hro haa ha9 (n := u2) (n2 := u) er2 hu3 (by decide) er1 hu (by decide) (j := b) (i := a) (m := m) l4 l3) rfl (by decide) (Nat.le_of_ble_eq_true rfl) 146 rfl ?_
                refine z_iload F dX9_move_146 5 rfl 148 rfl ?_
                refine z_ri F dX9_move_148 ?_
                refine fin (m := z_up μ 7 (va_cpy (μ 7) (μ 7) (24 * q + a) (24 * q2 + b) m)) (by unfold aMove; rw [nI_clamp q31, nI_clamp q231, if_pos ⟨h4, h11⟩, if_neg (fun z => z.elim h29 h41), if_neg (fun z => z h68), if_pos ⟨h92, h111⟩, nI_clamp ha, nI_clamp hb, nI_clamp hm]) (hR.she (G := [60 + 3 * q2]) (MS.rf.up (by simp)) (fun o ho => by simp at ho; omega) (fun o h5 h6 h7 => by rw [up_o h7]) (fun t ht => ?_))
                rw [up_o (show (5 : Nat) ≠ 7 by decide), up_o (show (6 : Nat) ≠ 7 by decide), up_o (show 58 + 3 * t ≠ 60 + 3 * q2 by omega), up_o (show 59 + 3 * t ≠ 60 + 3 * q2 by omega), up_same]
                obtain ⟨b1, b2, ⟨w, b3, b4, b5⟩, b6⟩ := hR.sh ht
                refine ⟨b1, b2, ⟨w, b3, b4, fun k hk => ?_⟩, b6⟩
                by_cases z : t = q2
                · subst z
                  rw [up_same]
                  by_cases y : b ≤ k ∧ k < b + m
                  · rw [pk_cpy_in y.1 y.2, pk_cpy_in (by omega) (by omega), hu2 _ (by omega)]
                    congr 1; omega
                  · rw [pk_cpy_out (by omega), pk_cpy_out (by omega)]; exact b5 k hk
                · rw [up_o (by omega), pk_cpy_out (by omega)]; exact b5 k hk
              · skip
                have h111 := bI0.mp h111
                refine z_aload_n F dX9_move_114 0 rfl 115 rfl ?_
                refine z_iconst F dX9_move_115 1 (by decide) 116 rfl ?_
                refine z_callVi F dX9_move_116 m_334 iX9_fail jX9_fail rfl zc8 rfl (kX9_fail σ (k := 1) (by decide) (by decide)) rfl (by decide) (Nat.le_of_ble_eq_true rfl) 119 rfl (fun r116 s116 c116 => ?_)
                refine z_ri F dX9_move_119 ?_
                obtain ⟨rfl, rfl⟩ := c116
                exact fin (by unfold aMove; rw [nI_clamp q31, nI_clamp q231, if_pos ⟨h4, h11⟩, if_neg (fun z => z.elim h29 h41), if_neg (fun z => z h68), if_neg (fun z => h111 z.2)]; rfl) (hR.fail (by decide) (by decide))
          · skip
            refine z_aload_n F dX9_move_71 0 rfl 72 rfl ?_
            refine z_iconst F dX9_move_72 5 (by decide) 73 rfl ?_
            refine z_callVi F dX9_move_73 m_334 iX9_fail jX9_fail rfl zc8 rfl (kX9_fail σ (k := 5) (by decide) (by decide)) rfl (by decide) (Nat.le_of_ble_eq_true rfl) 76 rfl (fun r73 s73 c73 => ?_)
            refine z_ri F dX9_move_76 ?_
            obtain ⟨rfl, rfl⟩ := c73
            exact fin (by unfold aMove; rw [nI_clamp q31, nI_clamp q231, if_pos ⟨h4, h11⟩, if_neg (fun z => z.elim h29 h41), if_pos h68]; rfl) (hR.fail (by decide) (by decide))
        · skip
          have h41 := bI1.mp h41
          refine z_aload_n F dX9_move_44 0 rfl 45 rfl ?_
          refine z_iconst F dX9_move_45 2 (by decide) 46 rfl ?_
          refine z_callVi F dX9_move_46 m_334 iX9_fail jX9_fail rfl zc8 rfl (kX9_fail σ (k := 2) (by decide) (by decide)) rfl (by decide) (Nat.le_of_ble_eq_true rfl) 49 rfl (fun r46 s46 c46 => ?_)
          refine z_ri F dX9_move_49 ?_
          obtain ⟨rfl, rfl⟩ := c46
          exact fin (by unfold aMove; rw [nI_clamp q31, nI_clamp q231, if_pos ⟨h4, h11⟩, if_pos (Or.inr h41)]; rfl) (hR.fail (by decide) (by decide))
    · skip
      have h11 := bI0.mp h11
      refine z_aload_n F dX9_move_14 0 rfl 15 rfl ?_
      refine z_iconst F dX9_move_15 1 (by decide) 16 rfl ?_
      refine z_callVi F dX9_move_16 m_334 iX9_fail jX9_fail rfl zc8 rfl (kX9_fail σ (k := 1) (by decide) (by decide)) rfl (by decide) (Nat.le_of_ble_eq_true rfl) 19 rfl (fun r16 s16 c16 => ?_)
      refine z_ri F dX9_move_19 ?_
      obtain ⟨rfl, rfl⟩ := c16
      exact fin (by
        unfold aMove
        (repeat' split) <;> first | rfl | contradiction | (exfalso; simp only [Int32.lt_iff_toInt_lt, Int32.le_iff_toInt_le, ← Int32.toInt_inj, Int32.reduceToInt] at *; omega)) (hR.fail (by decide) (by decide))
set_option maxHeartbeats 1000000 in
set_option maxRecDepth 10000 in
theorem kX9_judge {l : Launch} {E : z_E} (σ : z_M) {μ : z_M} (hR : Rel σ μ) (s : Int32)  : z_C l E shC 1 yX9_judge cX9_judge 4 (some FieldType.int) [.ref (z_ad E 0), .int s] σ (z_Pi (fun rv σ' => rv = (aJudge μ s).1 ∧ Rel σ' (aJudge μ s).2)) := by
  refine z_intro iX9_judge (Nat.le_of_ble_eq_true rfl) (fun K F => ?_)
  have hc : σ 2 0 = μ 1 2 := hR.1.1.1
  have hn : μ 1 2 = nI (nP (μ 1)) := hR.2.1.1.1
  have h8 : nP (μ 1) ≤ 8 := hR.n8
  have loop43 : ∀ (f : Nat) (q u : Nat) (_ : q < 4) (_ : u ≤ 24) (_ : μ 6 q = nI u) (_ : ∀ k, k < u → σ (60 + 3 * q) k = μ 7 (24 * q + k)) (_ : shC[59 + 3 * q]? = some (6, 2, [some (60 + 3 * q), none])) (_ : shC[60 + 3 * q]? = some (0, 24, [])) (_ : σ (59 + 3 * q) 1 = nI u) (t : Nat) (_ : 24 < t + f) (_ : t ≤ u) (_ : ∀ k, k < t → judP (μ 1) (fun k => μ 7 (24 * q + k)) k = false) (_ : aJudge μ (nI q) = (nI (judT (μ 1) (fun k => μ 7 (24 * q + k)) u), μ)), z_X l K E shC 1 4 (z_Pi (fun rv σ' => rv = (aJudge μ (nI q)).1 ∧ Rel σ' (aJudge μ (nI q)).2)) 43 [(0, .ref (z_ad E 0)), (1, .int (nI q)), (2, .ref (z_ad E (59 + 3 * q))), (3, .int (nI t))] [] σ := by
    intro f
    induction f with
    | zero =>
      intro q u hq hu eu hu2 hro haa er1 t hf ht hno eop
      omega
    | succ f ih =>
      intro q u hq hu eu hu2 hro haa er1 t hf ht hno eop
      have ha9 : 60 + 3 * q ≠ 999 := by omega
      have hc1 := hR.cnt
      refine z_iload_n F dX9_judge_43 3 rfl 44 rfl ?_
      refine z_aload_n F dX9_judge_44 2 rfl 45 rfl ?_
      refine z_callVp F dX9_judge_45 m_503 iX4_size jX4_size rfl zc3 hro (kX4_size σ (S := shC) (r := 59 + 3 * q) (a := 60 + 3 * q) (cap := 24) hro haa ha9) rfl (by decide) (Nat.le_of_ble_eq_true rfl) 48 rfl ?_
      rw [er1]
      refine z_icmp_ge F dX9_judge_48 91 (by decide) 51 rfl (fun h48 => ?_) (fun h48 => ?_)
      · skip
        refine z_iload_n F dX9_judge_91 3 rfl 92 rfl ?_
        refine z_ri F dX9_judge_92 ?_
        have et : judT (μ 1) (fun k => μ 7 (24 * q + k)) u = t := by
          have htu : t = u := by have := le_nI h48 (by omega) (by omega); omega
          rw [← htu]; exact fstF_none hno
        exact fin (by rw [eop, et]) hR
      · skip
        have htu : t < u := nle_nI h48 (by omega) (by omega)
        refine z_aload_n F dX9_judge_51 0 rfl 52 rfl ?_
        refine z_getR F zc8 dX9_judge_52 rfl 0 (by decide) (by decide) (.inl m_302) rfl (by decide) 55 rfl ?_
        refine z_getR F zc7 dX9_judge_55 rfl 0 (by decide) (by decide) (.inr ⟨_, m_200⟩) rfl (by decide) 58 rfl ?_
        refine z_iload_n F dX9_judge_58 3 rfl 59 rfl ?_
        refine z_callVp F dX9_judge_59 m_370 iX1_has jX1_has rfl zc1 rfl (kX1_has σ _) rfl (by decide) (Nat.le_of_ble_eq_true rfl) 62 rfl ?_
        refine z_if_eq F dX9_judge_62 91 (by decide) 65 rfl (fun h62 => ?_) (fun h62 => ?_)
        · skip
          have h62 := bI0.mp h62
          refine z_iload_n F dX9_judge_91 3 rfl 92 rfl ?_
          refine z_ri F dX9_judge_92 ?_
          have et : judT (μ 1) (fun k => μ 7 (24 * q + k)) u = t := fstF_is htu (by unfold judP; rw [decide_eq_false (p := t < nP (μ 1)) (fun z => h62 ⟨nI_pos' (by omega), by rw [hc1]; exact nI_lt z (by omega)⟩)]; rfl) hno
          exact fin (by rw [eop, et]) hR
        · skip
          have h62 := bI1.mp h62
          have htn : t < nP (μ 1) := by
            obtain ⟨j, hj, e⟩ := isP_of (n := nP (μ 1)) (hc1 ▸ h62) (by omega)
            rw [eq_nI e (by omega) (by omega)]; exact hj
          refine z_aload_n F dX9_judge_65 2 rfl 66 rfl ?_
          refine z_iload_n F dX9_judge_66 3 rfl 67 rfl ?_
          refine z_callVp F dX9_judge_67 m_840 iX4_at jX4_at rfl zc3 hro (kX4_at σ (S := shC) (r := 59 + 3 * q) (a := 60 + 3 * q) (cap := 24) hro haa ha9 (n := u) er1 hu (by decide) _) rfl (by decide) (Nat.le_of_ble_eq_true rfl) 70 rfl ?_
          rw [rAt_in er1 htu (by omega), hu2 t htu]
          refine z_aload_n F dX9_judge_70 0 rfl 71 rfl ?_
          refine z_getR F zc8 dX9_judge_71 rfl 0 (by decide) (by decide) (.inl m_302) rfl (by decide) 74 rfl ?_
          refine z_getR F zc7 dX9_judge_74 rfl 0 (by decide) (by decide) (.inr ⟨_, m_200⟩) rfl (by decide) 77 rfl ?_
          refine z_getR F zc1 dX9_judge_77 rfl 3 (by decide) (by decide) (.inr ⟨_, m_119⟩) rfl (by decide) 80 rfl ?_
          refine z_iload_n F dX9_judge_80 3 rfl 81 rfl ?_
          refine z_iald F dX9_judge_81 rfl (vp_in_nI (by omega) (by decide)) 82 rfl ?_
          rw [nI_clamp (show t < 2 ^ 31 by omega), show σ 5 t = pO (μ 1) t 2 from ((kin1.mp hR.1.1).2 t htn).2.2.1]
          refine z_icmp_ne F dX9_judge_82 91 (by decide) 85 rfl (fun h82 => ?_) (fun h82 => ?_)
          · skip
            refine z_iload_n F dX9_judge_91 3 rfl 92 rfl ?_
            refine z_ri F dX9_judge_92 ?_
            have et : judT (μ 1) (fun k => μ 7 (24 * q + k)) u = t := fstF_is htu (by unfold judP; rw [decide_eq_false (p := _ = pO (μ 1) t 2) h82]; simp) hno
            exact fin (by rw [eop, et]) hR
          · skip
            refine z_iinc F dX9_judge_85 3 rfl 1 (by decide) [(0, _), (1, _), (2, _), (3, _)] rfl (by decide) 88 rfl ?_
            refine z_goto F dX9_judge_88 43 (by decide) ?_
            rw [nI_1]
            exact ih q u hq hu eu hu2 hro haa er1 (t + 1) (by omega) (by omega) (fun k hk => by
              rcases Nat.lt_or_ge k t with z | z
              · exact hno k z
              · have : k = t := by omega
                subst this; unfold judP; rw [decide_eq_true htn, decide_eq_true (p := _ = pO (μ 1) k 2) h82]; rfl) eop
  refine z_iload_n F dX9_judge_0 1 rfl 1 rfl ?_
  refine z_callSp F dX9_judge_1 m_773 iX9_isSheet m_774 rfl (kX9_isSheet σ _) rfl (by decide) (Nat.le_of_ble_eq_true rfl) 4 rfl ?_
  refine z_if_ne F dX9_judge_4 13 (by decide) 7 rfl (fun h4 => ?_) (fun h4 => ?_)
  · skip
    have h4 := bI1.mp h4
    obtain ⟨q, hq, rfl⟩ : ∃ q, q < 4 ∧ s = nI q := isP_of (n := 4) h4 (by decide)
    have q31 : q < 2 ^ 31 := by omega
    obtain ⟨hso, hro, haa⟩ := shS q hq
    have hr9 : 59 + 3 * q ≠ 999 := by omega
    have ha9 : 60 + 3 * q ≠ 999 := by omega
    have hsh := hR.sh hq
    obtain ⟨u, hu, eu, hu2⟩ := hsh.2.2.1
    have er1 : σ (59 + 3 * q) 1 = nI u := hsh.2.1.trans eu
    refine z_aload_n F dX9_judge_13 0 rfl 14 rfl ?_
    refine z_getR F zc8 dX9_judge_14 rfl 5 (by decide) (by decide) (.inl m_307) rfl (by decide) 17 rfl ?_
    refine z_iload_n F dX9_judge_17 1 rfl 18 rfl ?_
    refine z_aaldS F dX9_judge_18 rfl (vp_in_nI hq (by decide)) (by rw [nI_clamp q31]; exact shR q hq) 19 rfl ?_
    refine z_callVp F dX9_judge_19 m_776 iX5_isMissing jX5_isMissing rfl zc4 hso (kX5_isMissing σ hso hro haa hr9 ha9) rfl (by decide) (Nat.le_of_ble_eq_true rfl) 22 rfl ?_
    rw [hsh.1]
    refine z_if_eq F dX9_judge_22 31 (by decide) 25 rfl (fun h22 => ?_) (fun h22 => ?_)
    · skip
      have h22 := bI0.mp h22
      skip
      refine z_aload_n F dX9_judge_31 0 rfl 32 rfl ?_
      refine z_getR F zc8 dX9_judge_32 rfl 5 (by decide) (by decide) (.inl m_307) rfl (by decide) 35 rfl ?_
      refine z_iload_n F dX9_judge_35 1 rfl 36 rfl ?_
      refine z_aaldS F dX9_judge_36 rfl (vp_in_nI hq (by decide)) (by rw [nI_clamp q31]; exact shR q hq) 37 rfl ?_
      refine z_getR F zc4 dX9_judge_37 hso 0 (by decide) (by decide) (.inr ⟨_, m_294⟩) rfl hr9 40 rfl ?_
      refine z_astore_n F dX9_judge_40 [(0, _), (1, _), (2, _)] rfl (by decide) 41 rfl ?_
      refine z_iconst F dX9_judge_41 0 (by decide) 42 rfl ?_
      refine z_istore_n F dX9_judge_42 [(0, _), (1, _), (2, _), (3, _)] rfl (by decide) 43 rfl ?_
      exact loop43 25 q u hq hu eu hu2 hro haa er1 0 (by omega) (by omega) (fun k hk => by omega) (by unfold aJudge; rw [nI_clamp q31, if_pos h4, if_neg h22, eu, nI_clamp (show u < 2 ^ 31 by omega)])
    · skip
      have h22 := bI1.mp h22
      refine z_aload_n F dX9_judge_25 0 rfl 26 rfl ?_
      refine z_iconst F dX9_judge_26 2 (by decide) 27 rfl ?_
      refine z_callVi F dX9_judge_27 m_334 iX9_fail jX9_fail rfl zc8 rfl (kX9_fail σ (k := 2) (by decide) (by decide)) rfl (by decide) (Nat.le_of_ble_eq_true rfl) 30 rfl (fun r27 s27 c27 => ?_)
      refine z_ri F dX9_judge_30 ?_
      obtain ⟨rfl, rfl⟩ := c27
      exact fin (by unfold aJudge; rw [nI_clamp q31, if_pos h4, if_pos h22]; rfl) (hR.fail (by decide) (by decide))
  · skip
    have h4 := bI0.mp h4
    refine z_aload_n F dX9_judge_7 0 rfl 8 rfl ?_
    refine z_iconst F dX9_judge_8 1 (by decide) 9 rfl ?_
    refine z_callVi F dX9_judge_9 m_334 iX9_fail jX9_fail rfl zc8 rfl (kX9_fail σ (k := 1) (by decide) (by decide)) rfl (by decide) (Nat.le_of_ble_eq_true rfl) 12 rfl (fun r9 s9 c9 => ?_)
    refine z_ri F dX9_judge_12 ?_
    obtain ⟨rfl, rfl⟩ := c9
    exact fin (by
      unfold aJudge
      (repeat' split) <;> first | rfl | contradiction | (exfalso; simp only [Int32.lt_iff_toInt_lt, Int32.le_iff_toInt_le, ← Int32.toInt_inj, Int32.reduceToInt] at *; omega)) (hR.fail (by decide) (by decide))
set_option maxHeartbeats 1000000 in
set_option maxRecDepth 10000 in
theorem kX9_seenAll {l : Launch} {E : z_E} (σ : z_M) {μ : z_M} (hR : Rel σ μ) (s : Int32)  : z_C l E shC 1 yX9_seenAll cX9_seenAll 4 (some FieldType.int) [.ref (z_ad E 0), .int s] σ (z_Pi (fun rv σ' => rv = (aSeenAll μ s).1 ∧ Rel σ' (aSeenAll μ s).2)) := by
  refine z_intro iX9_seenAll (Nat.le_of_ble_eq_true rfl) (fun K F => ?_)
  have hc : σ 2 0 = μ 1 2 := hR.1.1.1
  have hn : μ 1 2 = nI (nP (μ 1)) := hR.2.1.1.1
  have h8 : nP (μ 1) ≤ 8 := hR.n8
  have loop43 : ∀ (f : Nat) (q u : Nat) (_ : q < 4) (_ : u ≤ 24) (_ : μ 6 q = nI u) (_ : ∀ k, k < u → σ (60 + 3 * q) k = μ 7 (24 * q + k)) (_ : shC[59 + 3 * q]? = some (6, 2, [some (60 + 3 * q), none])) (_ : shC[60 + 3 * q]? = some (0, 24, [])) (_ : σ (59 + 3 * q) 1 = nI u) (t : Nat) (τ : z_M) (_ : 24 < t + f) (_ : t ≤ u) (_ : MS [9] σ τ) (_ : Rel τ (z_up μ 1 (senR (μ 1) (fun k => μ 7 (24 * q + k)) t))) (_ : ∀ k, k < t → senP (μ 1) (fun k => μ 7 (24 * q + k)) k = false) (_ : aSeenAll μ (nI q) = (nI (senT (μ 1) (fun k => μ 7 (24 * q + k)) u), z_up μ 1 (senR (μ 1) (fun k => μ 7 (24 * q + k)) (senT (μ 1) (fun k => μ 7 (24 * q + k)) u)))), z_X l K E shC 1 4 (z_Pi (fun rv σ' => rv = (aSeenAll μ (nI q)).1 ∧ Rel σ' (aSeenAll μ (nI q)).2)) 43 [(0, .ref (z_ad E 0)), (1, .int (nI q)), (2, .ref (z_ad E (59 + 3 * q))), (3, .int (nI t))] [] τ := by
    intro f
    induction f with
    | zero =>
      intro q u hq hu eu hu2 hro haa er1 t τ hf ht hs hRt hno eop
      omega
    | succ f ih =>
      intro q u hq hu eu hu2 hro haa er1 t τ hf ht hs hRt hno eop
      have ha9 : 60 + 3 * q ≠ 999 := by omega
      have hc1 : τ 2 0 = nI (nP (μ 1)) := (congrFun (hs 2 (by decide)) 0).trans hR.cnt
      have er2 : τ (59 + 3 * q) 1 = nI u := (congrFun (hs _ (by simp; omega)) 1).trans er1
      have hsh : (1 : Int32) <<< (τ 2 0 &&& 31) = nI (2 ^ nP (μ 1)) := by rw [hc1]; exact shl_nI _ (by omega)
      refine z_iload_n F dX9_seenAll_43 3 rfl 44 rfl ?_
      refine z_aload_n F dX9_seenAll_44 2 rfl 45 rfl ?_
      refine z_callVp F dX9_seenAll_45 m_503 iX4_size jX4_size rfl zc3 hro (kX4_size τ (S := shC) (r := 59 + 3 * q) (a := 60 + 3 * q) (cap := 24) hro haa ha9) rfl (by decide) (Nat.le_of_ble_eq_true rfl) 48 rfl ?_
      rw [er2]
      refine z_icmp_ge F dX9_seenAll_48 106 (by decide) 51 rfl (fun h48 => ?_) (fun h48 => ?_)
      · skip
        refine z_iload_n F dX9_seenAll_106 3 rfl 107 rfl ?_
        refine z_ri F dX9_seenAll_107 ?_
        have et : senT (μ 1) (fun k => μ 7 (24 * q + k)) u = t := by
          have htu : t = u := by have := le_nI h48 (by omega) (by omega); omega
          rw [← htu]; exact fstF_none hno
        exact fin (by rw [eop, et]) hRt
      · skip
        have htu : t < u := nle_nI h48 (by omega) (by omega)
        have ec : τ (60 + 3 * q) t = μ 7 (24 * q + t) := (congrFun (hs _ (by simp; omega)) t).trans (hu2 t htu)
        refine z_aload_n F dX9_seenAll_51 0 rfl 52 rfl ?_
        refine z_getR F zc8 dX9_seenAll_52 rfl 0 (by decide) (by decide) (.inl m_302) rfl (by decide) 55 rfl ?_
        refine z_getR F zc7 dX9_seenAll_55 rfl 0 (by decide) (by decide) (.inr ⟨_, m_200⟩) rfl (by decide) 58 rfl ?_
        refine z_iload_n F dX9_seenAll_58 3 rfl 59 rfl ?_
        refine z_callVp F dX9_seenAll_59 m_370 iX1_has jX1_has rfl zc1 rfl (kX1_has τ _) rfl (by decide) (Nat.le_of_ble_eq_true rfl) 62 rfl ?_
        refine z_if_eq F dX9_seenAll_62 106 (by decide) 65 rfl (fun h62 => ?_) (fun h62 => ?_)
        · skip
          have h62 := bI0.mp h62
          refine z_iload_n F dX9_seenAll_106 3 rfl 107 rfl ?_
          refine z_ri F dX9_seenAll_107 ?_
          have et : senT (μ 1) (fun k => μ 7 (24 * q + k)) u = t := fstF_is htu (by unfold senP; rw [decide_eq_false (p := t < nP (μ 1)) (fun z => h62 ⟨nI_pos' (by omega), by rw [hc1]; exact nI_lt z (by omega)⟩)]; rfl) hno
          exact fin (by rw [eop, et]) hRt
        · skip
          have h62 := bI1.mp h62
          have htn : t < nP (μ 1) := by
            obtain ⟨j, hj, e⟩ := isP_of (n := nP (μ 1)) (hc1 ▸ h62) (by omega)
            rw [eq_nI e (by omega) (by omega)]; exact hj
          refine z_aload_n F dX9_seenAll_65 0 rfl 66 rfl ?_
          refine z_getR F zc8 dX9_seenAll_66 rfl 0 (by decide) (by decide) (.inl m_302) rfl (by decide) 69 rfl ?_
          refine z_getR F zc7 dX9_seenAll_69 rfl 0 (by decide) (by decide) (.inr ⟨_, m_200⟩) rfl (by decide) 72 rfl ?_
          refine z_aload_n F dX9_seenAll_72 2 rfl 73 rfl ?_
          refine z_iload_n F dX9_seenAll_73 3 rfl 74 rfl ?_
          refine z_callVp F dX9_seenAll_74 m_840 iX4_at jX4_at rfl zc3 hro (kX4_at τ (S := shC) (r := 59 + 3 * q) (a := 60 + 3 * q) (cap := 24) hro haa ha9 (n := u) er2 hu (by decide) _) rfl (by decide) (Nat.le_of_ble_eq_true rfl) 77 rfl ?_
          rw [rAt_in er2 htu (by omega), ec]
          refine z_callVp F dX9_seenAll_77 m_748 iX1_isSet jX1_isSet rfl zc1 rfl (kX1_isSet τ _) rfl (by decide) (Nat.le_of_ble_eq_true rfl) 80 rfl ?_
          rw [hsh]
          refine z_if_eq F dX9_seenAll_80 106 (by decide) 83 rfl (fun h80 => ?_) (fun h80 => ?_)
          · skip
            have h80 := bI0.mp h80
            refine z_iload_n F dX9_seenAll_106 3 rfl 107 rfl ?_
            refine z_ri F dX9_seenAll_107 ?_
            have et : senT (μ 1) (fun k => μ 7 (24 * q + k)) u = t := fstF_is htu (by unfold senP; rw [decide_eq_false (p := 0 ≤ _ ∧ _) h80]; simp) hno
            exact fin (by rw [eop, et]) hRt
          · skip
            have h80 := bI1.mp h80
            refine z_aload_n F dX9_seenAll_83 0 rfl 84 rfl ?_
            refine z_getR F zc8 dX9_seenAll_84 rfl 0 (by decide) (by decide) (.inl m_302) rfl (by decide) 87 rfl ?_
            refine z_getR F zc7 dX9_seenAll_87 rfl 1 (by decide) (by decide) (.inr ⟨_, m_202⟩) rfl (by decide) 90 rfl ?_
            refine z_getR F zc0 dX9_seenAll_90 rfl 3 (by decide) (by decide) (.inr ⟨_, m_154⟩) rfl (by decide) 93 rfl ?_
            refine z_iload_n F dX9_seenAll_93 3 rfl 94 rfl ?_
            refine z_aload_n F dX9_seenAll_94 2 rfl 95 rfl ?_
            refine z_iload_n F dX9_seenAll_95 3 rfl 96 rfl ?_
            refine z_callVp F dX9_seenAll_96 m_840 iX4_at jX4_at rfl zc3 hro (kX4_at τ (S := shC) (r := 59 + 3 * q) (a := 60 + 3 * q) (cap := 24) hro haa ha9 (n := u) er2 hu (by decide) _) rfl (by decide) (Nat.le_of_ble_eq_true rfl) 99 rfl ?_
            rw [rAt_in er2 htu (by omega), ec]
            refine z_iast F dX9_seenAll_99 rfl (vp_in_nI (by omega) (by decide)) 100 rfl ?_
            rw [nI_clamp (show t < 2 ^ 31 by omega)]
            refine z_iinc F dX9_seenAll_100 3 rfl 1 (by decide) [(0, _), (1, _), (2, _), (3, _)] rfl (by decide) 103 rfl ?_
            refine z_goto F dX9_seenAll_103 43 (by decide) ?_
            rw [nI_1]
            exact ih q u hq hu eu hu2 hro haa er1 (t + 1) _ (by omega) (by omega) (hs.u2 (by decide)) (hRt.sen (r := senR (μ 1) (fun k => μ 7 (24 * q + k)) t) (by rw [sen_n]; exact htn) h80.1 (by rw [sen_n]; exact h80.2)) (fun k hk => by
              rcases Nat.lt_or_ge k t with z | z
              · exact hno k z
              · have : k = t := by omega
                subst this; unfold senP; rw [decide_eq_true htn, decide_eq_true (p := 0 ≤ _ ∧ _) h80]; rfl) eop
  refine z_iload_n F dX9_seenAll_0 1 rfl 1 rfl ?_
  refine z_callSp F dX9_seenAll_1 m_773 iX9_isSheet m_774 rfl (kX9_isSheet σ _) rfl (by decide) (Nat.le_of_ble_eq_true rfl) 4 rfl ?_
  refine z_if_ne F dX9_seenAll_4 13 (by decide) 7 rfl (fun h4 => ?_) (fun h4 => ?_)
  · skip
    have h4 := bI1.mp h4
    obtain ⟨q, hq, rfl⟩ : ∃ q, q < 4 ∧ s = nI q := isP_of (n := 4) h4 (by decide)
    have q31 : q < 2 ^ 31 := by omega
    obtain ⟨hso, hro, haa⟩ := shS q hq
    have hr9 : 59 + 3 * q ≠ 999 := by omega
    have ha9 : 60 + 3 * q ≠ 999 := by omega
    have hsh := hR.sh hq
    obtain ⟨u, hu, eu, hu2⟩ := hsh.2.2.1
    have er1 : σ (59 + 3 * q) 1 = nI u := hsh.2.1.trans eu
    refine z_aload_n F dX9_seenAll_13 0 rfl 14 rfl ?_
    refine z_getR F zc8 dX9_seenAll_14 rfl 5 (by decide) (by decide) (.inl m_307) rfl (by decide) 17 rfl ?_
    refine z_iload_n F dX9_seenAll_17 1 rfl 18 rfl ?_
    refine z_aaldS F dX9_seenAll_18 rfl (vp_in_nI hq (by decide)) (by rw [nI_clamp q31]; exact shR q hq) 19 rfl ?_
    refine z_callVp F dX9_seenAll_19 m_776 iX5_isMissing jX5_isMissing rfl zc4 hso (kX5_isMissing σ hso hro haa hr9 ha9) rfl (by decide) (Nat.le_of_ble_eq_true rfl) 22 rfl ?_
    rw [hsh.1]
    refine z_if_eq F dX9_seenAll_22 31 (by decide) 25 rfl (fun h22 => ?_) (fun h22 => ?_)
    · skip
      have h22 := bI0.mp h22
      refine z_aload_n F dX9_seenAll_31 0 rfl 32 rfl ?_
      refine z_getR F zc8 dX9_seenAll_32 rfl 5 (by decide) (by decide) (.inl m_307) rfl (by decide) 35 rfl ?_
      refine z_iload_n F dX9_seenAll_35 1 rfl 36 rfl ?_
      refine z_aaldS F dX9_seenAll_36 rfl (vp_in_nI hq (by decide)) (by rw [nI_clamp q31]; exact shR q hq) 37 rfl ?_
      refine z_getR F zc4 dX9_seenAll_37 hso 0 (by decide) (by decide) (.inr ⟨_, m_294⟩) rfl hr9 40 rfl ?_
      refine z_astore_n F dX9_seenAll_40 [(0, _), (1, _), (2, _)] rfl (by decide) 41 rfl ?_
      refine z_iconst F dX9_seenAll_41 0 (by decide) 42 rfl ?_
      refine z_istore_n F dX9_seenAll_42 [(0, _), (1, _), (2, _), (3, _)] rfl (by decide) 43 rfl ?_
      exact loop43 25 q u hq hu eu hu2 hro haa er1 0 σ (by omega) (by omega) MS.rf (by show Rel σ (z_up μ 1 (μ 1)); rw [up_id]; exact hR) (fun k hk => by omega) (by unfold aSeenAll; rw [nI_clamp q31, if_pos h4, if_neg h22, eu, nI_clamp (show u < 2 ^ 31 by omega)])
    · skip
      have h22 := bI1.mp h22
      refine z_aload_n F dX9_seenAll_25 0 rfl 26 rfl ?_
      refine z_iconst F dX9_seenAll_26 2 (by decide) 27 rfl ?_
      refine z_callVi F dX9_seenAll_27 m_334 iX9_fail jX9_fail rfl zc8 rfl (kX9_fail σ (k := 2) (by decide) (by decide)) rfl (by decide) (Nat.le_of_ble_eq_true rfl) 30 rfl (fun r27 s27 c27 => ?_)
      refine z_ri F dX9_seenAll_30 ?_
      obtain ⟨rfl, rfl⟩ := c27
      exact fin (by unfold aSeenAll; rw [nI_clamp q31, if_pos h4, if_pos h22]; rfl) (hR.fail (by decide) (by decide))
  · skip
    have h4 := bI0.mp h4
    refine z_aload_n F dX9_seenAll_7 0 rfl 8 rfl ?_
    refine z_iconst F dX9_seenAll_8 1 (by decide) 9 rfl ?_
    refine z_callVi F dX9_seenAll_9 m_334 iX9_fail jX9_fail rfl zc8 rfl (kX9_fail σ (k := 1) (by decide) (by decide)) rfl (by decide) (Nat.le_of_ble_eq_true rfl) 12 rfl (fun r9 s9 c9 => ?_)
    refine z_ri F dX9_seenAll_12 ?_
    obtain ⟨rfl, rfl⟩ := c9
    exact fin (by
      unfold aSeenAll
      (repeat' split) <;> first | rfl | contradiction | (exfalso; simp only [Int32.lt_iff_toInt_lt, Int32.le_iff_toInt_le, ← Int32.toInt_inj, Int32.reduceToInt] at *; omega)) (hR.fail (by decide) (by decide))
set_option maxHeartbeats 1000000 in
set_option maxRecDepth 10000 in
theorem kX9_fits {l : Launch} {E : z_E} (σ : z_M) {μ : z_M} (hR : Rel σ μ) (s : Int32) (x : Int32) (w : Int32)  : z_C l E shC 6 yX9_fits cX9_fits 5 (some FieldType.int) [.ref (z_ad E 0), .int s, .int x, .int w] σ (z_Pi (fun rv σ' => rv = (aFits μ s x w).1 ∧ Rel σ' (aFits μ s x w).2)) := by
  refine z_intro iX9_fits (Nat.le_of_ble_eq_true rfl) (fun K F => ?_)
  have hc : σ 2 0 = μ 1 2 := hR.1.1.1
  have hn : μ 1 2 = nI (nP (μ 1)) := hR.2.1.1.1
  have h8 : nP (μ 1) ≤ 8 := hR.n8
  refine z_iload_n F dX9_fits_0 1 rfl 1 rfl ?_
  refine z_callSp F dX9_fits_1 m_773 iX9_isSheet m_774 rfl (kX9_isSheet σ _) rfl (by decide) (Nat.le_of_ble_eq_true rfl) 4 rfl ?_
  refine z_if_eq F dX9_fits_4 30 (by decide) 7 rfl (fun h4 => ?_) (fun h4 => ?_)
  · skip
    have h4 := bI0.mp h4
    refine z_aload_n F dX9_fits_30 0 rfl 31 rfl ?_
    refine z_iconst F dX9_fits_31 1 (by decide) 32 rfl ?_
    refine z_callVi F dX9_fits_32 m_334 iX9_fail jX9_fail rfl zc8 rfl (kX9_fail σ (k := 1) (by decide) (by decide)) rfl (by decide) (Nat.le_of_ble_eq_true rfl) 35 rfl (fun r32 s32 c32 => ?_)
    refine z_ri F dX9_fits_35 ?_
    obtain ⟨rfl, rfl⟩ := c32
    exact fin (by
      unfold aFits
      (repeat' split) <;> first | rfl | contradiction | (exfalso; simp only [Int32.lt_iff_toInt_lt, Int32.le_iff_toInt_le, ← Int32.toInt_inj, Int32.reduceToInt] at *; omega)) (hR.fail (by decide) (by decide))
  · skip
    have h4 := bI1.mp h4
    refine z_aload_n F dX9_fits_7 0 rfl 8 rfl ?_
    refine z_getR F zc8 dX9_fits_8 rfl 0 (by decide) (by decide) (.inl m_302) rfl (by decide) 11 rfl ?_
    refine z_getR F zc7 dX9_fits_11 rfl 0 (by decide) (by decide) (.inr ⟨_, m_200⟩) rfl (by decide) 14 rfl ?_
    refine z_iload_n F dX9_fits_14 2 rfl 15 rfl ?_
    refine z_callVp F dX9_fits_15 m_370 iX1_has jX1_has rfl zc1 rfl (kX1_has σ _) rfl (by decide) (Nat.le_of_ble_eq_true rfl) 18 rfl ?_
    refine z_if_eq F dX9_fits_18 30 (by decide) 21 rfl (fun h18 => ?_) (fun h18 => ?_)
    · skip
      have h18 := bI0.mp h18
      refine z_aload_n F dX9_fits_30 0 rfl 31 rfl ?_
      refine z_iconst F dX9_fits_31 1 (by decide) 32 rfl ?_
      refine z_callVi F dX9_fits_32 m_334 iX9_fail jX9_fail rfl zc8 rfl (kX9_fail σ (k := 1) (by decide) (by decide)) rfl (by decide) (Nat.le_of_ble_eq_true rfl) 35 rfl (fun r32 s32 c32 => ?_)
      refine z_ri F dX9_fits_35 ?_
      obtain ⟨rfl, rfl⟩ := c32
      exact fin (by
        unfold aFits
        (repeat' split) <;> first | rfl | contradiction | (exfalso; simp only [Int32.lt_iff_toInt_lt, Int32.le_iff_toInt_le, ← Int32.toInt_inj, Int32.reduceToInt] at *; omega)) (hR.fail (by decide) (by decide))
    · skip
      have h18 := bI1.mp h18
      refine z_iload_n F dX9_fits_21 3 rfl 22 rfl ?_
      refine z_if_lt F dX9_fits_22 30 (by decide) 25 rfl (fun h22 => ?_) (fun h22 => ?_)
      · skip
        refine z_aload_n F dX9_fits_30 0 rfl 31 rfl ?_
        refine z_iconst F dX9_fits_31 1 (by decide) 32 rfl ?_
        refine z_callVi F dX9_fits_32 m_334 iX9_fail jX9_fail rfl zc8 rfl (kX9_fail σ (k := 1) (by decide) (by decide)) rfl (by decide) (Nat.le_of_ble_eq_true rfl) 35 rfl (fun r32 s32 c32 => ?_)
        refine z_ri F dX9_fits_35 ?_
        obtain ⟨rfl, rfl⟩ := c32
        exact fin (by
          unfold aFits
          (repeat' split) <;> first | rfl | contradiction | (exfalso; simp only [Int32.lt_iff_toInt_lt, Int32.le_iff_toInt_le, ← Int32.toInt_inj, Int32.reduceToInt] at *; omega)) (hR.fail (by decide) (by decide))
      · skip
        refine z_iload_n F dX9_fits_25 3 rfl 26 rfl ?_
        refine z_iconst F dX9_fits_26 1 (by decide) 27 rfl ?_
        refine z_icmp_le F dX9_fits_27 36 (by decide) 30 rfl (fun h27 => ?_) (fun h27 => ?_)
        · skip
          obtain ⟨q, hq, rfl⟩ : ∃ q, q < 4 ∧ s = nI q := isP_of (n := 4) h4 (by decide)
          have q31 : q < 2 ^ 31 := by omega
          obtain ⟨hso, hro, haa⟩ := shS q hq
          have hr9 : 59 + 3 * q ≠ 999 := by omega
          have ha9 : 60 + 3 * q ≠ 999 := by omega
          have hsh := hR.sh hq
          obtain ⟨u, hu, eu, hu2⟩ := hsh.2.2.1
          have er1 : σ (59 + 3 * q) 1 = nI u := hsh.2.1.trans eu
          obtain ⟨i, hi, rfl⟩ := isP_of (n := nP (μ 1)) (hn ▸ hc ▸ h18) (by omega)
          have i31 : i < 2 ^ 31 := by omega
          refine z_aload_n F dX9_fits_36 0 rfl 37 rfl ?_
          refine z_getR F zc8 dX9_fits_37 rfl 5 (by decide) (by decide) (.inl m_307) rfl (by decide) 40 rfl ?_
          refine z_iload_n F dX9_fits_40 1 rfl 41 rfl ?_
          refine z_aaldS F dX9_fits_41 rfl (vp_in_nI hq (by decide)) (by rw [nI_clamp q31]; exact shR q hq) 42 rfl ?_
          refine z_callVp F dX9_fits_42 m_776 iX5_isMissing jX5_isMissing rfl zc4 hso (kX5_isMissing σ hso hro haa hr9 ha9) rfl (by decide) (Nat.le_of_ble_eq_true rfl) 45 rfl ?_
          rw [hsh.1]
          refine z_if_eq F dX9_fits_45 54 (by decide) 48 rfl (fun h45 => ?_) (fun h45 => ?_)
          · skip
            have h45 := bI0.mp h45
            refine z_aload_n F dX9_fits_54 0 rfl 55 rfl ?_
            refine z_getR F zc8 dX9_fits_55 rfl 0 (by decide) (by decide) (.inl m_302) rfl (by decide) 58 rfl ?_
            refine z_aload_n F dX9_fits_58 0 rfl 59 rfl ?_
            refine z_getR F zc8 dX9_fits_59 rfl 5 (by decide) (by decide) (.inl m_307) rfl (by decide) 62 rfl ?_
            refine z_iload_n F dX9_fits_62 1 rfl 63 rfl ?_
            refine z_aaldS F dX9_fits_63 rfl (vp_in_nI hq (by decide)) (by rw [nI_clamp q31]; exact shR q hq) 64 rfl ?_
            refine z_getR F zc4 dX9_fits_64 hso 0 (by decide) (by decide) (.inr ⟨_, m_294⟩) rfl hr9 67 rfl ?_
            refine z_iload_n F dX9_fits_67 2 rfl 68 rfl ?_
            refine z_callVi F dX9_fits_68 m_780 iX8_parentsFitting jX8_parentsFitting rfl zc7 rfl (kX8_parentsFitting σ (r := μ 1) hR.now hR.crs (ro := 59 + 3 * q) (aa := 60 + 3 * q) hro haa ha9 (by simp; omega) (by simp; omega) (q := u) er1 hu hi) rfl (by decide) (Nat.le_of_ble_eq_true rfl) 71 rfl (fun r68 s68 c68 => ?_)
            have ef : fitN (μ 1) i (σ (60 + 3 * q)) u = fitN (μ 1) i (fun k => μ 7 (24 * q + k)) u := fit_congr hu2
            have f256 : fitN (μ 1) i (σ (60 + 3 * q)) u < 256 := Nat.lt_of_lt_of_le (setOf_lt _ _) (Nat.pow_le_pow_right (n := 2) (by decide) (by omega : i ≤ 8))
            have hR2 := hR.knw c68.2.1 c68.2.2
            rw [c68.1]
            refine z_istore F dX9_fits_71 [(0, _), (1, _), (2, _), (3, _), (4, _)] rfl (by decide) 73 rfl ?_
            refine z_iload_n F dX9_fits_73 3 rfl 74 rfl ?_
            refine z_if_ne F dX9_fits_74 82 (by decide) 77 rfl (fun h74 => ?_) (fun h74 => ?_)
            · skip
              refine z_iload F dX9_fits_82 4 rfl 84 rfl ?_
              refine z_callSp F dX9_fits_84 m_752 iJ6_bitCount_0f7a4 m_676 rfl (kJ6_bitCount_0f7a4 s68 f256) rfl (by decide) (Nat.le_of_ble_eq_true rfl) 87 rfl ?_
              refine z_ri F dX9_fits_87 ?_
              refine fin (m := μ) ?_ hR2
              unfold aFits
              rw [nI_clamp q31, nI_clamp i31, if_pos ⟨h4, ⟨h18.1, hc ▸ h18.2⟩, by simp only [Int32.lt_iff_toInt_lt, Int32.le_iff_toInt_le, ← Int32.toInt_inj, Int32.reduceToInt] at *; omega, by simp only [Int32.lt_iff_toInt_lt, Int32.le_iff_toInt_le, ← Int32.toInt_inj, Int32.reduceToInt] at *; omega⟩, if_neg h45, eu, nI_clamp (show u < 2 ^ 31 by omega), if_neg h74, ef]
            · skip
              refine z_iload F dX9_fits_77 4 rfl 79 rfl ?_
              refine z_goto F dX9_fits_79 87 (by decide) ?_
              refine z_ri F dX9_fits_87 ?_
              refine fin (m := μ) ?_ hR2
              unfold aFits
              rw [nI_clamp q31, nI_clamp i31, if_pos ⟨h4, ⟨h18.1, hc ▸ h18.2⟩, by simp only [Int32.lt_iff_toInt_lt, Int32.le_iff_toInt_le, ← Int32.toInt_inj, Int32.reduceToInt] at *; omega, by simp only [Int32.lt_iff_toInt_lt, Int32.le_iff_toInt_le, ← Int32.toInt_inj, Int32.reduceToInt] at *; omega⟩, if_neg h45, eu, nI_clamp (show u < 2 ^ 31 by omega), if_pos h74, ef]
          · skip
            have h45 := bI1.mp h45
            refine z_aload_n F dX9_fits_48 0 rfl 49 rfl ?_
            refine z_iconst F dX9_fits_49 2 (by decide) 50 rfl ?_
            refine z_callVi F dX9_fits_50 m_334 iX9_fail jX9_fail rfl zc8 rfl (kX9_fail σ (k := 2) (by decide) (by decide)) rfl (by decide) (Nat.le_of_ble_eq_true rfl) 53 rfl (fun r50 s50 c50 => ?_)
            refine z_ri F dX9_fits_53 ?_
            obtain ⟨rfl, rfl⟩ := c50
            exact fin (by unfold aFits; rw [nI_clamp q31, if_pos ⟨h4, ⟨h18.1, hc ▸ h18.2⟩, by simp only [Int32.lt_iff_toInt_lt, Int32.le_iff_toInt_le, ← Int32.toInt_inj, Int32.reduceToInt] at *; omega, by simp only [Int32.lt_iff_toInt_lt, Int32.le_iff_toInt_le, ← Int32.toInt_inj, Int32.reduceToInt] at *; omega⟩, if_pos h45]; rfl) (hR.fail (by decide) (by decide))
        · skip
          refine z_aload_n F dX9_fits_30 0 rfl 31 rfl ?_
          refine z_iconst F dX9_fits_31 1 (by decide) 32 rfl ?_
          refine z_callVi F dX9_fits_32 m_334 iX9_fail jX9_fail rfl zc8 rfl (kX9_fail σ (k := 1) (by decide) (by decide)) rfl (by decide) (Nat.le_of_ble_eq_true rfl) 35 rfl (fun r32 s32 c32 => ?_)
          refine z_ri F dX9_fits_35 ?_
          obtain ⟨rfl, rfl⟩ := c32
          exact fin (by
            unfold aFits
            (repeat' split) <;> first | rfl | contradiction | (exfalso; simp only [Int32.lt_iff_toInt_lt, Int32.le_iff_toInt_le, ← Int32.toInt_inj, Int32.reduceToInt] at *; omega)) (hR.fail (by decide) (by decide))
