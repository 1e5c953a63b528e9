/-! the reference: draws, what is only thought -/
theorem vkE {r r' : Rw} (h2 : r' 2 = r 2) (hp : ∀ p w, p < 8 → w < 4 → pO r' p w = pO r p w) (hv : VK r) : VK r' := by
  have en : nP r' = nP r := by unfold nP; rw [h2]
  have h8 := hv.2.1
  refine ⟨by rw [h2, en]; exact hv.1, by rw [en]; exact hv.2.1, fun p hp2 => ?_⟩
  rw [en] at hp2 ⊢
  obtain ⟨v1, v2, v3, v4⟩ := hv.2.2 p hp2
  rw [hp p 0 (by omega) (by decide), hp p 1 (by omega) (by decide), hp p 2 (by omega) (by decide), hp p 3 (by omega) (by decide)]
  refine ⟨v1, v2, v3, ?_⟩
  rcases v4 with v4 | ⟨j, j1, j2, j3, j4⟩
  · exact Or.inl v4
  · exact Or.inr ⟨j, j1, j2, j3, by rw [hp j 3 (by omega) (by decide)]; exact j4⟩
theorem MV.dr {Y : Nat} {r : Rw} (h : MV Y r) : MV Y (drR r) := by
  have hq : (r 0).toNatClampNeg % 6 < 6 := Nat.mod_lt _ (by decide)
  have ed : drR r = upd (upd (upd r 1 (dzS (dzS (r 1)))) (7 + 2 * ((r 0).toNatClampNeg % 6)) (rem8 (doS (dzS (r 1))))) (8 + 2 * ((r 0).toNatClampNeg % 6)) (rem8 (doS (dzS (dzS (r 1))))) := rfl
  generalize (r 0).toNatClampNeg % 6 = q at hq ed
  obtain ⟨a, ha, ea⟩ := do_rng (dzS (r 1))
  obtain ⟨b, hb, eb⟩ := do_rng (dzS (dzS (r 1)))
  have he : ∀ k, k ≠ 1 → k < 7 ∨ 19 ≤ k → drR r k = r k := fun k h1 h2 => by rw [ed, upd_at, upd_at, upd_at, if_neg (by omega), if_neg (by omega), if_neg (by omega)]
  have hp : ∀ p w, pO (drR r) p w = pO r p w := fun p w => he _ (by omega) (by omega)
  refine ⟨vkE (he 2 (by decide) (by decide)) (fun p w _ _ => hp p w) h.1, vcE (fun k _ => he k (by omega) (by omega)) h.2.1, vcE (fun k _ => he k (by omega) (by omega)) h.2.2.1, fun k hk => ?_, vtE (he 0 (by decide) (by decide)) (he 2 (by decide) (by decide)) (he 3 (by decide) (by decide)) (he 4 (by decide) (by decide)) (fun p _ => hp p 4) h.1.2.1 h.2.2.2.2⟩
  rw [ed, upd_at, upd_at, upd_at, upd_at, upd_at, upd_at]
  by_cases z : k = q
  · subst z; simp; exact ⟨⟨a, ha, ea⟩, b, hb, eb⟩
  · rw [if_neg (by omega), if_neg (by omega), if_neg (by omega), if_neg (by omega), if_neg (by omega), if_neg (by omega)]; exact h.2.2.2.1 k hk
theorem MV.loo {Y : Nat} {r : Rw} (h : MV Y r) (hY : Y < 90000) : ∀ k, k < 1000 → MV (Y + k) (looN k r)
  | 0, _ => h
  | k + 1, hk => ((MV.loo h hY k (by omega)).dr).goN (by omega) 1 (by decide)
theorem MV.ord {Y : Nat} {r : Rw} (h : MV Y r) {v : Nat} (hv : v ≤ 40) : MV Y (upd r 4 (nI v)) := by
  have hk : eqK r (upd r 4 (nI v)) := eqK_upd (Or.inr (Or.inr rfl))
  refine ⟨eqK_VK hk h.1, eqK_VC hk h.2.1, eqK_VC hk h.2.2.1, eqK_VM hk h.2.2.2.1, ?_⟩
  obtain ⟨t1, t2, t3, t4⟩ := h.2.2.2.2
  refine ⟨by rw [upd_at, if_neg (by decide)]; exact t1, by rw [upd_at, if_neg (by decide)]; exact t2, ⟨v, hv, by rw [upd_at, if_pos rfl]⟩, fun p hp => ?_⟩
  rw [eqK_nP hk] at hp ⊢
  have h8 := h.1.2.1
  rw [pO_hi (by omega) (by omega) (by decide)]; exact t4 p hp
theorem MO.row {σ s : z_M} {r : Rw} (h : MS [1, 10, 11] σ s) (e : s 1 = r) : MO (z_up σ 1 r) s := by
  refine ⟨fun o ho => ?_, ?_, ?_⟩
  · by_cases z : o = 1
    · subst z; rw [up_same]; exact e
    · rw [up_o z]
      refine h o (fun q => ?_)
      simp at ho q
      omega
  · rw [up_o (by decide)]; exact congrFun (h 0 (by decide)) 3
  · rw [up_o (by decide)]; exact congrFun (h 0 (by decide)) 18
theorem MO.back {σ s : z_M} (h : MS [1, 3, 10, 11] σ s) (e : s 3 = σ 1) : MO σ (z_up s 1 (s 3)) := by
  refine ⟨fun o ho => ?_, ?_, ?_⟩
  · by_cases z : o = 1
    · subst z; rw [up_same]; exact e
    · rw [up_o z]
      refine h o (fun q => ?_)
      simp at ho q
      omega
  · rw [up_o (by decide)]; exact congrFun (h 0 (by decide)) 3
  · rw [up_o (by decide)]; exact congrFun (h 0 (by decide)) 18
theorem MO.er {a b : z_M} {k : Nat} (h : MO a b) : MO (er a k).2 (er b k).2 := by
  refine ⟨fun o ho => ?_, ?_, ?_⟩
  · show z_u2 b 4 k (b 4 k + 1) o = z_u2 a 4 k (a 4 k + 1) o
    by_cases z : o = 4
    · subst z; unfold z_u2; rw [up_same, up_same, h.1 4 (by decide)]
    · rw [u2_o z, u2_o z]; exact h.1 o ho
  · show z_u2 b 4 k (b 4 k + 1) 0 3 = z_u2 a 4 k (a 4 k + 1) 0 3
    rw [u2_o (by decide), u2_o (by decide)]; exact h.2.1
  · show z_u2 b 4 k (b 4 k + 1) 0 18 = z_u2 a 4 k (a 4 k + 1) 0 18
    rw [u2_o (by decide), u2_o (by decide)]; exact h.2.2
theorem finE {a : Op} {σ m : z_M} {k : Nat} (e : a = er σ k) (h : MO σ m) : (er m k).1 = a.1 ∧ MO a.2 (er m k).2 := by rw [e]; exact ⟨rfl, h.er⟩
theorem thk_ms {σ s : z_M} (h : MS [1, 10, 11] (z_up σ 3 (σ 1)) s) : MS [1, 3, 10, 11] σ s ∧ s 3 = σ 1 :=
  ⟨(MS.up (MS.rf (G := [1, 3, 10, 11])) (by decide)).tr (h.sub (by decide)), (h 3 (by decide)).trans up_same⟩
theorem sight_6 {r : Rw} {p : Nat} (hp : p < 8) : sightS (upd r 6 0) p = sightS r p := by
  have hk : eqK r (upd r 6 0) := ⟨by rw [upd_at, if_neg (by decide)], fun p w hw => by unfold pO; rw [upd_at, if_neg (by omega)], fun j h1 h2 => by rw [upd_at, if_neg (by omega)], fun j h1 => by rw [upd_at, if_neg (by omega)]⟩
  unfold sightS
  rw [eqK_giv hk, eqK_near hk, hk.2.1 p 0 (by decide), hk.2.1 p 1 (by decide)]
  rfl
set_option maxHeartbeats 400000 in
set_option maxRecDepth 10000 in
theorem kX10_draw {l : Launch} {E : z_E} (σ : z_M)  : z_C l E shM 0 yX10_draw cX10_draw 1 (some FieldType.int) [.ref (z_ad E 0)] σ (z_Pi (fun rv μ' => rv = doS (dzS (σ 1 1)) ∧ μ' = z_u2 σ 1 1 (dzS (σ 1 1)))) := by
  refine z_intro iX10_draw (Nat.le_of_ble_eq_true rfl) (fun K F => ?_)
  refine z_aload_n F dX10_draw_0 0 rfl 1 rfl ?_
  refine z_getR F zc9 dX10_draw_1 rfl 0 (by decide) (by decide) (.inl m_930) rfl (by decide) 4 rfl ?_
  refine z_iconst F dX10_draw_4 1 (by decide) 5 rfl ?_
  refine z_aload_n F dX10_draw_5 0 rfl 6 rfl ?_
  refine z_getR F zc9 dX10_draw_6 rfl 0 (by decide) (by decide) (.inl m_930) rfl (by decide) 9 rfl ?_
  refine z_iconst F dX10_draw_9 1 (by decide) 10 rfl ?_
  refine z_iald F dX10_draw_10 rfl (show vp_in (nI 1) 385 from vp_in_nI (by decide) (by decide)) 11 rfl ?_
  rw [tn_1]
  refine z_ldc F dX10_draw_11 m_1209 13 rfl ?_
  refine z_imul F dX10_draw_13 14 rfl ?_
  refine z_sipush F dX10_draw_14 12345 (by decide) 17 rfl ?_
  refine z_iadd F dX10_draw_17 18 rfl ?_
  refine z_iast F dX10_draw_18 rfl (show vp_in (nI 1) 385 from vp_in_nI (by decide) (by decide)) 19 rfl ?_
  rw [tn_1]
  refine z_aload_n F dX10_draw_19 0 rfl 20 rfl ?_
  refine z_getR F zc9 dX10_draw_20 rfl 0 (by decide) (by decide) (.inl m_930) rfl (by decide) 23 rfl ?_
  refine z_iconst F dX10_draw_23 1 (by decide) 24 rfl ?_
  refine z_iald F dX10_draw_24 rfl (show vp_in (nI 1) 385 from vp_in_nI (by decide) (by decide)) 25 rfl ?_
  rw [tn_1, u2_same]
  refine z_bipush F dX10_draw_25 8 (by decide) 27 rfl ?_
  refine z_iushr F dX10_draw_27 28 rfl ?_
  refine z_ri F dX10_draw_28 ?_
  exact ⟨rfl, rfl⟩
set_option maxHeartbeats 400000 in
set_option maxRecDepth 10000 in
theorem kX10_drawn {l : Launch} {E : z_E} (σ : z_M) {Y : Nat} (hv : MV Y (σ 1)) (hY : Y < 100000) : z_C l E shM 7 yX10_drawn cX10_drawn 2 none [.ref (z_ad E 0)] σ (z_Pv (fun σ' => σ' 1 = goS (drR (σ 1)) ∧ MS [1, 10, 11] σ σ')) := by
  refine z_intro iX10_drawn (Nat.le_of_ble_eq_true rfl) (fun K F => ?_)
  obtain ⟨y, hy, ey⟩ := hv.2.2.2.2.1
  have e6 : σ 1 0 - σ 1 0 / 6 * 6 = nI (y % 6) := by rw [ey]; exact mod6_nI (by omega)
  have t6 : y % 6 < 6 := Nat.mod_lt _ (by decide)
  have ed : drR (σ 1) = upd (upd (upd (σ 1) 1 (dzS (dzS (σ 1 1)))) (7 + 2 * (y % 6)) (rem8 (doS (dzS (σ 1 1))))) (8 + 2 * (y % 6)) (rem8 (doS (dzS (dzS (σ 1 1))))) := by
    unfold drR; rw [ey, nI_clamp (show y < 2 ^ 31 by omega)]
  generalize y % 6 = t at *
  refine z_bipush F dX10_drawn_0 7 (by decide) 2 rfl ?_
  refine z_iconst F dX10_drawn_2 2 (by decide) 3 rfl ?_
  refine z_aload_n F dX10_drawn_3 0 rfl 4 rfl ?_
  refine z_getR F zc9 dX10_drawn_4 rfl 0 (by decide) (by decide) (.inl m_930) rfl (by decide) 7 rfl ?_
  refine z_iconst F dX10_drawn_7 0 (by decide) 8 rfl ?_
  refine z_iald F dX10_drawn_8 rfl (show vp_in (nI 0) 385 from vp_in_nI (by decide) (by decide)) 9 rfl ?_
  rw [tn_0]
  refine z_bipush F dX10_drawn_9 6 (by decide) 11 rfl ?_
  refine z_irem F dX10_drawn_11 (by decide) 12 rfl ?_
  rw [e6]
  refine z_imul F dX10_drawn_12 13 rfl ?_
  refine z_iadd F dX10_drawn_13 14 rfl ?_
  rw [ix7]
  refine z_istore_n F dX10_drawn_14 [(0, _), (1, _)] rfl (by decide) 15 rfl ?_
  refine z_aload_n F dX10_drawn_15 0 rfl 16 rfl ?_
  refine z_getR F zc9 dX10_drawn_16 rfl 0 (by decide) (by decide) (.inl m_930) rfl (by decide) 19 rfl ?_
  refine z_iload_n F dX10_drawn_19 1 rfl 20 rfl ?_
  refine z_aload_n F dX10_drawn_20 0 rfl 21 rfl ?_
  refine z_callVi F dX10_drawn_21 m_1205 iX10_draw jX10_draw rfl zc9 rfl (kX10_draw _) rfl (by decide) (Nat.le_of_ble_eq_true rfl) 24 rfl (fun r21 s21 c21 => ?_)
  obtain ⟨rfl, rfl⟩ := c21
  refine z_bipush F dX10_drawn_24 8 (by decide) 26 rfl ?_
  refine z_irem F dX10_drawn_26 (by decide) 27 rfl ?_
  rw [show doS (dzS (σ 1 1)) - doS (dzS (σ 1 1)) / 8 * 8 = rem8 (doS (dzS (σ 1 1))) from rfl]
  refine z_iast F dX10_drawn_27 rfl (vp_in_nI (by omega) (by decide)) 28 rfl ?_
  rw [nI_clamp (by omega)]
  refine z_aload_n F dX10_drawn_28 0 rfl 29 rfl ?_
  refine z_getR F zc9 dX10_drawn_29 rfl 0 (by decide) (by decide) (.inl m_930) rfl (by decide) 32 rfl ?_
  refine z_iload_n F dX10_drawn_32 1 rfl 33 rfl ?_
  refine z_iconst F dX10_drawn_33 1 (by decide) 34 rfl ?_
  refine z_iadd F dX10_drawn_34 35 rfl ?_
  rw [nI_1]
  refine z_aload_n F dX10_drawn_35 0 rfl 36 rfl ?_
  refine z_callVi F dX10_drawn_36 m_1205 iX10_draw jX10_draw rfl zc9 rfl (kX10_draw _) rfl (by decide) (Nat.le_of_ble_eq_true rfl) 39 rfl (fun r36 s36 c36 => ?_)
  obtain ⟨rfl, rfl⟩ := c36
  have ez : z_u2 (z_u2 σ 1 1 (dzS (σ 1 1))) 1 (7 + 2 * t) (rem8 (doS (dzS (σ 1 1)))) 1 1 = dzS (σ 1 1) := by rw [u2_k (by omega), u2_same]
  rw [ez]
  refine z_bipush F dX10_drawn_39 8 (by decide) 41 rfl ?_
  refine z_irem F dX10_drawn_41 (by decide) 42 rfl ?_
  refine z_iast F dX10_drawn_42 rfl (vp_in_nI (by omega) (by decide)) 43 rfl ?_
  rw [nI_clamp (by omega)]
  generalize hm : z_u2 (z_u2 (z_u2 (z_u2 σ 1 1 (dzS (σ 1 1))) 1 (7 + 2 * t) _) 1 1 _) 1 (7 + 2 * t + 1) _ = m4
  have e4 : m4 1 = drR (σ 1) := by
    rw [← hm, ed]
    unfold rem8
    funext k
    simp only [z_u2, up_same, upd_at]
    (repeat' split) <;> first | (exfalso; omega) | with_reducible rfl
  have hs4 : MS [1, 10, 11] σ m4 := hm ▸ (((MS.rf.u2 (by decide)).u2 (by decide)).u2 (by decide)).u2 (by decide)
  refine z_aload_n F dX10_drawn_43 0 rfl 44 rfl ?_
  refine z_callVv F dX10_drawn_44 m_1189 iX10_goes jX10_goes rfl zc9 rfl (kX10_goes m4 (Y := Y) (by rw [e4]; exact hv.dr) hY) rfl (by decide) (Nat.le_of_ble_eq_true rfl) 47 rfl (fun s44 c44 => ?_)
  refine z_rv F dX10_drawn_47 ?_
  exact ⟨by rw [c44.1, e4], hs4.tr c44.2⟩
set_option maxHeartbeats 400000 in
set_option maxRecDepth 10000 in
theorem kX10_years {l : Launch} {E : z_E} (σ : z_M) {τ0 : z_M} (hR : Rel τ0 σ) (n : Int32)  : z_C l E shM 8 yX10_years cX10_years 2 (some FieldType.int) [.ref (z_ad E 0), .int n] σ (z_Pi (fun rv μ' => rv = (aYears σ n).1 ∧ MO (aYears σ n).2 μ')) := by
  refine z_intro iX10_years (Nat.le_of_ble_eq_true rfl) (fun K F => ?_)
  have hn : σ 1 2 = nI (nP (σ 1)) := hR.2.1.1.1
  have h8 : nP (σ 1) ≤ 8 := hR.n8
  have hN : σ 1 2 = nI (nP (σ 1)) ∧ nP (σ 1) ≤ 8 := ⟨hn, h8⟩
  refine z_iload_n F dX10_years_0 1 rfl 1 rfl ?_
  refine z_iconst F dX10_years_1 1 (by decide) 2 rfl ?_
  refine z_bipush F dX10_years_2 60 (by decide) 4 rfl ?_
  refine z_callSp F dX10_years_4 m_998 iX10_in m_999 rfl (kX10_in σ _ _ _) rfl (by decide) (Nat.le_of_ble_eq_true rfl) 7 rfl ?_
  refine z_if_ne F dX10_years_7 17 (by decide) 10 rfl (fun h7 => ?_) (fun h7 => ?_)
  · skip
    have h7 := bI1.mp h7
    obtain ⟨N, hN60, rfl⟩ : ∃ N, N < 61 ∧ n = nI N := isP_of (n := 61) ⟨by simp only [Int32.lt_iff_toInt_lt, Int32.le_iff_toInt_le, ← Int32.toInt_inj, Int32.reduceToInt] at *; omega, by show n < 61; simp only [Int32.lt_iff_toInt_lt, Int32.le_iff_toInt_le, ← Int32.toInt_inj, Int32.reduceToInt] at *; omega⟩ (by decide)
    have N31 : N < 2 ^ 31 := by omega
    refine z_aload_n F dX10_years_17 0 rfl 18 rfl ?_
    refine z_getR F zc9 dX10_years_18 rfl 0 (by decide) (by decide) (.inl m_930) rfl (by decide) 21 rfl ?_
    refine z_iconst F dX10_years_21 0 (by decide) 22 rfl ?_
    refine z_iald F dX10_years_22 rfl (show vp_in (nI 0) 385 from vp_in_nI (by decide) (by decide)) 23 rfl ?_
    rw [tn_0]
    refine z_iload_n F dX10_years_23 1 rfl 24 rfl ?_
    refine z_iadd F dX10_years_24 25 rfl ?_
    refine z_sipush F dX10_years_25 9999 (by decide) 28 rfl ?_
    refine z_icmp_le F dX10_years_28 38 (by decide) 31 rfl (fun h28 => ?_) (fun h28 => ?_)
    · skip
      refine z_aload_n F dX10_years_38 0 rfl 39 rfl ?_
      refine z_iload_n F dX10_years_39 1 rfl 40 rfl ?_
      refine z_callVv F dX10_years_40 m_1185 iX10_goesFor jX10_goesFor rfl zc9 rfl (kX10_goesFor σ hR.mv (by decide) (N := N) (by omega)) rfl (by decide) (Nat.le_of_ble_eq_true rfl) 43 rfl (fun s40 c40 => ?_)
      have hv40 := hR.mv.goN (by decide) N (by omega)
      rw [← c40.1] at hv40
      refine z_aload_n F dX10_years_43 0 rfl 44 rfl ?_
      refine z_callVp F dX10_years_44 m_1193 iX10_allSeen jX10_allSeen rfl zc9 rfl (kX10_allSeen s40 hv40.1 hv40.2.2.2.2) rfl (by decide) (Nat.le_of_ble_eq_true rfl) 47 rfl ?_
      refine z_ri F dX10_years_47 ?_
      refine finM (m := z_up σ 1 (goN N (σ 1))) ?_ (MO.row c40.2 c40.1)
      unfold aYears
      rw [if_pos h7, if_pos h28, nI_clamp N31, c40.1]
    · skip
      refine z_aload_n F dX10_years_31 0 rfl 32 rfl ?_
      refine z_ldc F dX10_years_32 m_1082 34 rfl ?_
      rw [lo3]
      refine z_callVi F dX10_years_34 m_1002 iX10_error jX10_error rfl zc9 rfl (kX10_error σ (k := 3) (by decide) (by decide)) rfl (by decide) (Nat.le_of_ble_eq_true rfl) 37 rfl (fun r34 s34 c34 => ?_)
      refine z_ri F dX10_years_37 ?_
      obtain ⟨rfl, rfl⟩ := c34
      exact finM (by
        unfold aYears
        (repeat' split) <;> first | rfl | contradiction | (exfalso; simp only [Int32.lt_iff_toInt_lt, Int32.le_iff_toInt_le, ← Int32.toInt_inj, Int32.reduceToInt] at *; omega)) MO.rf
  · skip
    have h7 := bI0.mp h7
    refine z_aload_n F dX10_years_10 0 rfl 11 rfl ?_
    refine z_ldc F dX10_years_11 m_1001 13 rfl ?_
    rw [lo1]
    refine z_callVi F dX10_years_13 m_1002 iX10_error jX10_error rfl zc9 rfl (kX10_error σ (k := 1) (by decide) (by decide)) rfl (by decide) (Nat.le_of_ble_eq_true rfl) 16 rfl (fun r13 s13 c13 => ?_)
    refine z_ri F dX10_years_16 ?_
    obtain ⟨rfl, rfl⟩ := c13
    exact finM (by
      unfold aYears
      (repeat' split) <;> first | rfl | contradiction | (exfalso; simp only [Int32.lt_iff_toInt_lt, Int32.le_iff_toInt_le, ← Int32.toInt_inj, Int32.reduceToInt] at *; omega)) MO.rf
set_option maxHeartbeats 400000 in
set_option maxRecDepth 10000 in
theorem kX10_loose {l : Launch} {E : z_E} (σ : z_M) {τ0 : z_M} (hR : Rel τ0 σ) (n : Int32)  : z_C l E shM 8 yX10_loose cX10_loose 3 (some FieldType.int) [.ref (z_ad E 0), .int n] σ (z_Pi (fun rv μ' => rv = (aLoose σ n).1 ∧ MO (aLoose σ n).2 μ')) := by
  refine z_intro iX10_loose (Nat.le_of_ble_eq_true rfl) (fun K F => ?_)
  have hn : σ 1 2 = nI (nP (σ 1)) := hR.2.1.1.1
  have h8 : nP (σ 1) ≤ 8 := hR.n8
  have hN : σ 1 2 = nI (nP (σ 1)) ∧ nP (σ 1) ≤ 8 := ⟨hn, h8⟩
  refine z_iload_n F dX10_loose_0 1 rfl 1 rfl ?_
  refine z_iconst F dX10_loose_1 1 (by decide) 2 rfl ?_
  refine z_bipush F dX10_loose_2 30 (by decide) 4 rfl ?_
  refine z_callSp F dX10_loose_4 m_998 iX10_in m_999 rfl (kX10_in σ _ _ _) rfl (by decide) (Nat.le_of_ble_eq_true rfl) 7 rfl ?_
  refine z_if_ne F dX10_loose_7 17 (by decide) 10 rfl (fun h7 => ?_) (fun h7 => ?_)
  · skip
    have h7 := bI1.mp h7
    obtain ⟨N, hN60, rfl⟩ : ∃ N, N < 31 ∧ n = nI N := isP_of (n := 31) ⟨by simp only [Int32.lt_iff_toInt_lt, Int32.le_iff_toInt_le, ← Int32.toInt_inj, Int32.reduceToInt] at *; omega, by show n < 31; simp only [Int32.lt_iff_toInt_lt, Int32.le_iff_toInt_le, ← Int32.toInt_inj, Int32.reduceToInt] at *; omega⟩ (by decide)
    have N31 : N < 2 ^ 31 := by omega
    refine z_aload_n F dX10_loose_17 0 rfl 18 rfl ?_
    refine z_getR F zc9 dX10_loose_18 rfl 0 (by decide) (by decide) (.inl m_930) rfl (by decide) 21 rfl ?_
    refine z_iconst F dX10_loose_21 0 (by decide) 22 rfl ?_
    refine z_iald F dX10_loose_22 rfl (show vp_in (nI 0) 385 from vp_in_nI (by decide) (by decide)) 23 rfl ?_
    rw [tn_0]
    refine z_iload_n F dX10_loose_23 1 rfl 24 rfl ?_
    refine z_iadd F dX10_loose_24 25 rfl ?_
    refine z_sipush F dX10_loose_25 9999 (by decide) 28 rfl ?_
    refine z_icmp_le F dX10_loose_28 38 (by decide) 31 rfl (fun h28 => ?_) (fun h28 => ?_)
    · skip
      have loop40 : ∀ (f : Nat) (k : Nat) (τ : z_M) (_ : 30 < k + f) (_ : k ≤ N) (_ : τ 1 = looN k (σ 1)) (_ : MS [1, 10, 11] σ τ), z_X l K E shM 8 3 (z_Pi (fun rv μ' => rv = (aLoose σ (nI N)).1 ∧ MO (aLoose σ (nI N)).2 μ')) 40 [(0, .ref (z_ad E 0)), (1, .int (nI N)), (2, .int (nI k))] [] τ := by
        intro f
        induction f with
        | zero =>
          intro k τ hf hk e1 hs
          omega
        | succ f ih =>
          intro k τ hf hk e1 hs
          have hvk := hR.mv.loo (by decide) k (by omega)
          rw [← e1] at hvk
          refine z_iload_n F dX10_loose_40 2 rfl 41 rfl ?_
          refine z_iload_n F dX10_loose_41 1 rfl 42 rfl ?_
          refine z_icmp_ge F dX10_loose_42 55 (by decide) 45 rfl (fun h42 => ?_) (fun h42 => ?_)
          · skip
            refine z_aload_n F dX10_loose_55 0 rfl 56 rfl ?_
            refine z_callVp F dX10_loose_56 m_1193 iX10_allSeen jX10_allSeen rfl zc9 rfl (kX10_allSeen τ hvk.1 hvk.2.2.2.2) rfl (by decide) (Nat.le_of_ble_eq_true rfl) 59 rfl ?_
            refine z_ri F dX10_loose_59 ?_
            have hke : k = N := by have := le_nI h42 (by omega) (by omega); omega
            subst hke
            refine finM (m := z_up σ 1 (looN k (σ 1))) ?_ (MO.row hs e1)
            unfold aLoose
            rw [if_pos h7, if_pos h28, nI_clamp N31, e1]
          · skip
            have hkN : k < N := nle_nI h42 (by omega) (by omega)
            refine z_aload_n F dX10_loose_45 0 rfl 46 rfl ?_
            refine z_callVv F dX10_loose_46 m_1201 iX10_drawn jX10_drawn rfl zc9 rfl (kX10_drawn τ hvk (by omega)) rfl (by decide) (Nat.le_of_ble_eq_true rfl) 49 rfl (fun s46 c46 => ?_)
            refine z_iinc F dX10_loose_49 2 rfl 1 (by decide) [(0, _), (1, _), (2, _)] rfl (by decide) 52 rfl ?_
            refine z_goto F dX10_loose_52 40 (by decide) ?_
            rw [nI_1]
            exact ih (k + 1) s46 (by omega) (by omega) (by rw [c46.1, e1]; rfl) (hs.tr c46.2)
      refine z_iconst F dX10_loose_38 0 (by decide) 39 rfl ?_
      refine z_istore_n F dX10_loose_39 [(0, _), (1, _), (2, _)] rfl (by decide) 40 rfl ?_
      exact loop40 31 0 σ (by omega) (by omega) rfl MS.rf
    · skip
      refine z_aload_n F dX10_loose_31 0 rfl 32 rfl ?_
      refine z_ldc F dX10_loose_32 m_1082 34 rfl ?_
      rw [lo3]
      refine z_callVi F dX10_loose_34 m_1002 iX10_error jX10_error rfl zc9 rfl (kX10_error σ (k := 3) (by decide) (by decide)) rfl (by decide) (Nat.le_of_ble_eq_true rfl) 37 rfl (fun r34 s34 c34 => ?_)
      refine z_ri F dX10_loose_37 ?_
      obtain ⟨rfl, rfl⟩ := c34
      exact finM (by
        unfold aLoose
        (repeat' split) <;> first | rfl | contradiction | (exfalso; simp only [Int32.lt_iff_toInt_lt, Int32.le_iff_toInt_le, ← Int32.toInt_inj, Int32.reduceToInt] at *; omega)) MO.rf
  · skip
    have h7 := bI0.mp h7
    refine z_aload_n F dX10_loose_10 0 rfl 11 rfl ?_
    refine z_ldc F dX10_loose_11 m_1001 13 rfl ?_
    rw [lo1]
    refine z_callVi F dX10_loose_13 m_1002 iX10_error jX10_error rfl zc9 rfl (kX10_error σ (k := 1) (by decide) (by decide)) rfl (by decide) (Nat.le_of_ble_eq_true rfl) 16 rfl (fun r13 s13 c13 => ?_)
    refine z_ri F dX10_loose_16 ?_
    obtain ⟨rfl, rfl⟩ := c13
    exact finM (by
      unfold aLoose
      (repeat' split) <;> first | rfl | contradiction | (exfalso; simp only [Int32.lt_iff_toInt_lt, Int32.le_iff_toInt_le, ← Int32.toInt_inj, Int32.reduceToInt] at *; omega)) MO.rf
set_option maxHeartbeats 400000 in
set_option maxRecDepth 10000 in
theorem kX10_then {l : Launch} {E : z_E} (σ : z_M) {τ0 : z_M} (hR : Rel τ0 σ) (x : Int32) (n : Int32)  : z_C l E shM 8 yX10_then cX10_then 4 (some FieldType.int) [.ref (z_ad E 0), .int x, .int n] σ (z_Pi (fun rv μ' => rv = (aThen σ x n).1 ∧ MO (aThen σ x n).2 μ')) := by
  refine z_intro iX10_then (Nat.le_of_ble_eq_true rfl) (fun K F => ?_)
  have hn : σ 1 2 = nI (nP (σ 1)) := hR.2.1.1.1
  have h8 : nP (σ 1) ≤ 8 := hR.n8
  have hN : σ 1 2 = nI (nP (σ 1)) ∧ nP (σ 1) ≤ 8 := ⟨hn, h8⟩
  refine z_aload_n F dX10_then_0 0 rfl 1 rfl ?_
  refine z_iload_n F dX10_then_1 1 rfl 2 rfl ?_
  refine z_callVp F dX10_then_2 m_1016 iX10_isPerson jX10_isPerson rfl zc9 rfl (kX10_isPerson σ hN _) rfl (by decide) (Nat.le_of_ble_eq_true rfl) 5 rfl ?_
  refine z_if_eq F dX10_then_5 18 (by decide) 8 rfl (fun h5 => ?_) (fun h5 => ?_)
  · skip
    have h5 := bI0.mp h5
    refine z_aload_n F dX10_then_18 0 rfl 19 rfl ?_
    refine z_ldc F dX10_then_19 m_1001 21 rfl ?_
    rw [lo1]
    refine z_callVi F dX10_then_21 m_1002 iX10_error jX10_error rfl zc9 rfl (kX10_error σ (k := 1) (by decide) (by decide)) rfl (by decide) (Nat.le_of_ble_eq_true rfl) 24 rfl (fun r21 s21 c21 => ?_)
    refine z_ri F dX10_then_24 ?_
    obtain ⟨rfl, rfl⟩ := c21
    exact finM (by
      unfold aThen
      (repeat' split) <;> first | rfl | contradiction | (exfalso; simp only [Int32.lt_iff_toInt_lt, Int32.le_iff_toInt_le, ← Int32.toInt_inj, Int32.reduceToInt] at *; omega)) MO.rf
  · skip
    have h5 := bI1.mp h5
    refine z_iload_n F dX10_then_8 2 rfl 9 rfl ?_
    refine z_iconst F dX10_then_9 0 (by decide) 10 rfl ?_
    refine z_bipush F dX10_then_10 60 (by decide) 12 rfl ?_
    refine z_callSp F dX10_then_12 m_998 iX10_in m_999 rfl (kX10_in σ _ _ _) rfl (by decide) (Nat.le_of_ble_eq_true rfl) 15 rfl ?_
    refine z_if_ne F dX10_then_15 25 (by decide) 18 rfl (fun h15 => ?_) (fun h15 => ?_)
    · skip
      have h15 := bI1.mp h15
      obtain ⟨i, hi, rfl⟩ := isP_of (n := nP (σ 1)) (hn ▸ h5) (by omega)
      have i31 : i < 2 ^ 31 := by omega
      obtain ⟨N, hN60, rfl⟩ : ∃ N, N < 61 ∧ n = nI N := isP_of (n := 61) ⟨by simp only [Int32.lt_iff_toInt_lt, Int32.le_iff_toInt_le, ← Int32.toInt_inj, Int32.reduceToInt] at *; omega, by show n < 61; simp only [Int32.lt_iff_toInt_lt, Int32.le_iff_toInt_le, ← Int32.toInt_inj, Int32.reduceToInt] at *; omega⟩ (by decide)
      have N31 : N < 2 ^ 31 := by omega
      refine z_aload_n F dX10_then_25 0 rfl 26 rfl ?_
      refine z_callVu F dX10_then_26 m_1222 iX10_thinks jX10_thinks rfl zc9 rfl (kX10_thinks σ) rfl (by decide) (Nat.le_of_ble_eq_true rfl) 29 rfl ?_
      refine z_aload_n F dX10_then_29 0 rfl 30 rfl ?_
      refine z_iload_n F dX10_then_30 2 rfl 31 rfl ?_
      refine z_callVv F dX10_then_31 m_1185 iX10_goesFor jX10_goesFor rfl zc9 rfl (kX10_goesFor _ (by rw [up_o (by decide)]; exact hR.mv) (by decide) (N := N) (by omega)) rfl (by decide) (Nat.le_of_ble_eq_true rfl) 34 rfl (fun s31 c31 => ?_)
      obtain ⟨m31, k31⟩ := thk_ms c31.2
      refine z_aload_n F dX10_then_34 0 rfl 35 rfl ?_
      refine z_iload_n F dX10_then_35 1 rfl 36 rfl ?_
      refine z_iconst F dX10_then_36 4 (by decide) 37 rfl ?_
      refine z_callVp F dX10_then_37 m_1020 iX10_of jX10_of rfl zc9 rfl (kX10_of s31 (p := i) (w := 4) (by omega) (by decide)) rfl (by decide) (Nat.le_of_ble_eq_true rfl) 40 rfl ?_
      refine z_istore_n F dX10_then_40 [(0, _), (1, _), (2, _), (3, _)] rfl (by decide) 41 rfl ?_
      refine z_aload_n F dX10_then_41 0 rfl 42 rfl ?_
      refine z_callVu F dX10_then_42 m_1229 iX10_putsBack jX10_putsBack rfl zc9 rfl (kX10_putsBack s31) rfl (by decide) (Nat.le_of_ble_eq_true rfl) 45 rfl ?_
      refine z_iload_n F dX10_then_45 3 rfl 46 rfl ?_
      refine z_ri F dX10_then_46 ?_
      refine finM (m := σ) ?_ (MO.back m31 k31)
      unfold aThen
      rw [if_pos ⟨h5, h15⟩, nI_clamp i31, nI_clamp N31, c31.1, up_o (by decide)]
    · skip
      have h15 := bI0.mp h15
      refine z_aload_n F dX10_then_18 0 rfl 19 rfl ?_
      refine z_ldc F dX10_then_19 m_1001 21 rfl ?_
      rw [lo1]
      refine z_callVi F dX10_then_21 m_1002 iX10_error jX10_error rfl zc9 rfl (kX10_error σ (k := 1) (by decide) (by decide)) rfl (by decide) (Nat.le_of_ble_eq_true rfl) 24 rfl (fun r21 s21 c21 => ?_)
      refine z_ri F dX10_then_24 ?_
      obtain ⟨rfl, rfl⟩ := c21
      exact finM (by
        unfold aThen
        (repeat' split) <;> first | rfl | contradiction | (exfalso; simp only [Int32.lt_iff_toInt_lt, Int32.le_iff_toInt_le, ← Int32.toInt_inj, Int32.reduceToInt] at *; omega)) MO.rf
