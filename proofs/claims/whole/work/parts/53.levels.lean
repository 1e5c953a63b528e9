/-! the reference's reader: levels -/
theorem MdP.to {τ s : z_M} {r : Rw} {w o : Nat} {L : List (Int32 × Int32)} {R : PR} {p : Nat} {ok : Bool} (hG : MG τ s) (hB : MdB s r w o p) (hb : s 0 15 = bI (¬ ok = true)) (e : R.1 = p) (e2 : R.2.2 = ok) (hl : ok = true → MdL s (L ++ R.2.1)) : MdP τ r w o L R s :=
  ⟨hG, e ▸ hB, by rw [e2]; exact hb, fun z => hl (e2 ▸ z)⟩
set_option maxHeartbeats 2000000 in
set_option maxRecDepth 10000 in
theorem kX10_lev1 {l : Launch} {E : z_E} {r : Rw} {w : Nat} (hx : VX r) (hw : w < 2) {h : Nat} (hh : h ≤ 5) (hS : ∀ (i : Nat) (L : List (Int32 × Int32)) (τ : z_M) (_ : i ≤ tN r) (_ : L.length ≤ i) (_ : MdB τ r w (5 - (h)) i) (_ : MdL τ L) (_ : τ 0 15 = 0), z_C l E shM (2 + 7 * (h) + 0) yX10_one cX10_one 3 none [.ref (z_ad E 0)] τ (z_Pv (MdP τ r w (5 - (h)) L (levP (tbR r) (untP (tbR r) w (h)) 0 i)))) : ∀ (i : Nat) (L : List (Int32 × Int32)) (τ : z_M) (_ : i ≤ tN r) (_ : L.length ≤ i) (_ : MdB τ r w (5 - (h)) i) (_ : MdL τ L) (_ : τ 0 15 = 0), z_C l E shM (2 + 7 * (h) + 1) yX10_times cX10_times 2 none [.ref (z_ad E 0)] τ (z_Pv (MdP τ r w (5 - (h)) L (levP (tbR r) (untP (tbR r) w (h)) 1 i))) := by
  intro i L τ hi hL hB hLd h15
  have h60 := hx.2.1
  have hT := tbR_T hx
  refine z_intro iX10_times (Nat.le_of_ble_eq_true rfl) (fun K F => ?_)
  have loop4 : ∀ (f q : Nat) (A : List (Int32 × Int32)) (ok : Bool) (υ : z_M) (_ : 60 < f + q) (_ : q ≤ tN r) (_ : MG τ υ) (_ : MdB υ r w (5 - h) q) (_ : υ 0 15 = bI (¬ ok = true)) (_ : ok = true → MdL υ (L ++ A) ∧ i + A.length ≤ q ∧ lopP (tbR r) 4 (levP (tbR r) (untP (tbR r) w h) 0) f q A = (levP (tbR r) (untP (tbR r) w h) 1) i) (_ : ¬ ok = true → ((levP (tbR r) (untP (tbR r) w h) 1) i).1 = q ∧ ¬ ((levP (tbR r) (untP (tbR r) w h) 1) i).2.2 = true), z_X l K E shM (2 + 7 * h + 1) 2 (z_Pv (MdP τ r w (5 - h) L ((levP (tbR r) (untP (tbR r) w h) 1) i))) 4 [(0, .ref (z_ad E 0))] [] υ := by
    intro f
    induction f with
    | zero => intro q A ok υ hf hq; omega
    | succ f ih =>
      intro q A ok υ hf hq hG hB2 hb2 hyes hno
      refine z_aload_n F dX10_times_4 0 rfl 5 rfl ?_
      refine z_getI F zc9 dX10_times_5 rfl 15 (by decide) (by decide) (.inl m_945) rfl 8 rfl ?_
      rw [hb2]
      refine z_if_ne F dX10_times_8 66 (by decide) 11 rfl (fun h8 => ?_) (fun h8 => ?_)
      · skip
        refine z_rv F dX10_times_66 ?_
        have hno2 : ¬ ok = true := bI1.mp h8
        obtain ⟨e1, e2⟩ := hno hno2
        exact MdP.to hG hB2 hb2 e1 (by cases z : ok; cases z2 : ((levP (tbR r) (untP (tbR r) w h) 1) i).2.2; rfl; exact absurd z2 e2; exact absurd z hno2) (fun z => absurd z hno2)
      · skip
        have hok : ok = true := Decidable.not_not.mp (bI0.mp h8)
        obtain ⟨hLd2, hlA, hR⟩ := hyes hok
        obtain ⟨c, hc, ec⟩ := hT.2 q
        refine z_aload_n F dX10_times_11 0 rfl 12 rfl ?_
        refine z_callVp F dX10_times_12 m_1153 iX10_look jX10_look rfl zc9 rfl (kX10_look υ hx hB2 hq) rfl (by omega) (Nat.le_of_ble_eq_true rfl) 15 rfl ?_
        refine z_bipush F dX10_times_15 42 (by decide) 17 rfl ?_
        refine z_icmp_eq F dX10_times_17 38 (by decide) 20 rfl (fun h17 => ?_) (fun h17 => ?_)
        · skip
          have hsg : lvS (tbR r q) = nI 4 := by
            rw [ec, sg4 c hc, ← ec]; exact Or.inl ((lk_eq (by decide) (by decide)).mp h17)
          have hqn : q < tN r := hT.lt (i := q) (by rw [(lk_eq (by decide) (by decide)).mp h17]; decide)
          have hgd := lev_gd hT (unt_gd hT hw h) 0 (by decide) (q + 1) (by omega)
          refine z_aload_n F dX10_times_38 0 rfl 39 rfl ?_
          refine z_callVp F dX10_times_39 m_1153 iX10_look jX10_look rfl zc9 rfl (kX10_look υ hx hB2 hq) rfl (by omega) (Nat.le_of_ble_eq_true rfl) 42 rfl ?_
          rw [lk_lt hqn]
          refine z_istore_n F dX10_times_42 [(0, _), (1, _)] rfl (by decide) 43 rfl ?_
          refine z_aload_n F dX10_times_43 0 rfl 44 rfl ?_
          refine z_dup F dX10_times_44 rfl 45 rfl ?_
          refine z_getI F zc9 dX10_times_45 rfl 13 (by decide) (by decide) (.inl m_943) rfl 48 rfl ?_
          rw [hB2.2.1]
          refine z_iconst F dX10_times_48 1 (by decide) 49 rfl ?_
          refine z_iadd F dX10_times_49 50 rfl ?_
          rw [nI_1]
          refine z_putI F zc9 dX10_times_50 rfl 13 (by decide) (by decide) (.inl m_943) rfl rfl z_pI 53 rfl ?_
          refine z_aload_n F dX10_times_53 0 rfl 54 rfl ?_
          refine z_callVv F dX10_times_54 m_1149 iX10_one jX10_one rfl zc9 rfl (hS (q + 1) (L ++ A) _ (by omega) (by rw [List.length_append]; omega) hB2.adv (hLd2.u0 (by decide)) (by rw [u2_k (by decide), hb2, hok]; rfl)) rfl (by omega) (Nat.le_of_ble_eq_true rfl) 57 rfl (fun s54 c54 => ?_)
          obtain ⟨t, ht, e12⟩ := c54.l
          refine z_aload_n F dX10_times_57 0 rfl 58 rfl ?_
          refine z_iload_n F dX10_times_58 1 rfl 59 rfl ?_
          refine z_iconst F dX10_times_59 0 (by decide) 60 rfl ?_
          refine z_callVu F dX10_times_60 m_1161 iX10_lays jX10_lays rfl zc9 rfl (kX10_lays s54 ht e12 _ _) rfl (by omega) (Nat.le_of_ble_eq_true rfl) 63 rfl ?_
          refine z_goto F dX10_times_63 4 (by decide) ?_
          have hgd2 : q + 1 ≤ ((levP (tbR r) (untP (tbR r) w h) 0) (q + 1)).1 := hgd.1
          refine z_sub [0] rfl (ih ((levP (tbR r) (untP (tbR r) w h) 0) (q + 1)).1 (A ++ (((levP (tbR r) (untP (tbR r) w h) 0) (q + 1)).2.1 ++ [(tbR r q, 0)])) ((levP (tbR r) (untP (tbR r) w h) 0) (q + 1)).2.2 _ (by omega) hgd.2.1 (lay_G (((hG.u0 (by decide)).tr c54.1))) (lay_B c54.2.1 e12) (by rw [lay_15]; exact c54.2.2.1) (fun okS => ?_) (fun noS => ?_))
          · have hl := c54.2.2.2 okS
            obtain ⟨g4, g5, -⟩ := hgd.2.2 okS
            have hg1 := hgd.2.1
            have hlen : (L ++ A ++ ((levP (tbR r) (untP (tbR r) w h) 0) (q + 1)).2.1).length < 60 := by rw [List.length_append, List.length_append]; omega
            have eq2 : t = (L ++ A ++ ((levP (tbR r) (untP (tbR r) w h) 0) (q + 1)).2.1).length := len_q hl (by omega) ht e12
            refine ⟨?_, ?_, by rw [← hR]; exact (lop_ok hsg okS (by decide)).symm⟩
            · rw [eq2]
              have hll := lay_L hl hlen (x := (tbR r q)) (v := 0)
              have ea : L ++ (A ++ (((levP (tbR r) (untP (tbR r) w h) 0) (q + 1)).2.1 ++ [(tbR r q, 0)])) = L ++ A ++ ((levP (tbR r) (untP (tbR r) w h) 0) (q + 1)).2.1 ++ [((tbR r q), 0)] := by simp only [List.append_assoc]
              rw [ea]; exact hll
            · rw [List.length_append, List.length_append]
              show i + (A.length + (((levP (tbR r) (untP (tbR r) w h) 0) (q + 1)).2.1.length + 1)) ≤ _
              omega
          · rw [lop_bad hsg noS] at hR
            rw [← hR]; exact ⟨rfl, Bool.false_ne_true⟩
        · skip
          refine z_aload_n F dX10_times_20 0 rfl 21 rfl ?_
          refine z_callVp F dX10_times_21 m_1153 iX10_look jX10_look rfl zc9 rfl (kX10_look υ hx hB2 hq) rfl (by omega) (Nat.le_of_ble_eq_true rfl) 24 rfl ?_
          refine z_bipush F dX10_times_24 47 (by decide) 26 rfl ?_
          refine z_icmp_eq F dX10_times_26 38 (by decide) 29 rfl (fun h26 => ?_) (fun h26 => ?_)
          · skip
            have hsg : lvS (tbR r q) = nI 4 := by
              rw [ec, sg4 c hc, ← ec]; exact Or.inr (Or.inl ((lk_eq (by decide) (by decide)).mp h26))
            have hqn : q < tN r := hT.lt (i := q) (by rw [(lk_eq (by decide) (by decide)).mp h26]; decide)
            have hgd := lev_gd hT (unt_gd hT hw h) 0 (by decide) (q + 1) (by omega)
            refine z_aload_n F dX10_times_38 0 rfl 39 rfl ?_
            refine z_callVp F dX10_times_39 m_1153 iX10_look jX10_look rfl zc9 rfl (kX10_look υ hx hB2 hq) rfl (by omega) (Nat.le_of_ble_eq_true rfl) 42 rfl ?_
            rw [lk_lt hqn]
            refine z_istore_n F dX10_times_42 [(0, _), (1, _)] rfl (by decide) 43 rfl ?_
            refine z_aload_n F dX10_times_43 0 rfl 44 rfl ?_
            refine z_dup F dX10_times_44 rfl 45 rfl ?_
            refine z_getI F zc9 dX10_times_45 rfl 13 (by decide) (by decide) (.inl m_943) rfl 48 rfl ?_
            rw [hB2.2.1]
            refine z_iconst F dX10_times_48 1 (by decide) 49 rfl ?_
            refine z_iadd F dX10_times_49 50 rfl ?_
            rw [nI_1]
            refine z_putI F zc9 dX10_times_50 rfl 13 (by decide) (by decide) (.inl m_943) rfl rfl z_pI 53 rfl ?_
            refine z_aload_n F dX10_times_53 0 rfl 54 rfl ?_
            refine z_callVv F dX10_times_54 m_1149 iX10_one jX10_one rfl zc9 rfl (hS (q + 1) (L ++ A) _ (by omega) (by rw [List.length_append]; omega) hB2.adv (hLd2.u0 (by decide)) (by rw [u2_k (by decide), hb2, hok]; rfl)) rfl (by omega) (Nat.le_of_ble_eq_true rfl) 57 rfl (fun s54 c54 => ?_)
            obtain ⟨t, ht, e12⟩ := c54.l
            refine z_aload_n F dX10_times_57 0 rfl 58 rfl ?_
            refine z_iload_n F dX10_times_58 1 rfl 59 rfl ?_
            refine z_iconst F dX10_times_59 0 (by decide) 60 rfl ?_
            refine z_callVu F dX10_times_60 m_1161 iX10_lays jX10_lays rfl zc9 rfl (kX10_lays s54 ht e12 _ _) rfl (by omega) (Nat.le_of_ble_eq_true rfl) 63 rfl ?_
            refine z_goto F dX10_times_63 4 (by decide) ?_
            have hgd2 : q + 1 ≤ ((levP (tbR r) (untP (tbR r) w h) 0) (q + 1)).1 := hgd.1
            refine z_sub [0] rfl (ih ((levP (tbR r) (untP (tbR r) w h) 0) (q + 1)).1 (A ++ (((levP (tbR r) (untP (tbR r) w h) 0) (q + 1)).2.1 ++ [(tbR r q, 0)])) ((levP (tbR r) (untP (tbR r) w h) 0) (q + 1)).2.2 _ (by omega) hgd.2.1 (lay_G (((hG.u0 (by decide)).tr c54.1))) (lay_B c54.2.1 e12) (by rw [lay_15]; exact c54.2.2.1) (fun okS => ?_) (fun noS => ?_))
            · have hl := c54.2.2.2 okS
              obtain ⟨g4, g5, -⟩ := hgd.2.2 okS
              have hg1 := hgd.2.1
              have hlen : (L ++ A ++ ((levP (tbR r) (untP (tbR r) w h) 0) (q + 1)).2.1).length < 60 := by rw [List.length_append, List.length_append]; omega
              have eq2 : t = (L ++ A ++ ((levP (tbR r) (untP (tbR r) w h) 0) (q + 1)).2.1).length := len_q hl (by omega) ht e12
              refine ⟨?_, ?_, by rw [← hR]; exact (lop_ok hsg okS (by decide)).symm⟩
              · rw [eq2]
                have hll := lay_L hl hlen (x := (tbR r q)) (v := 0)
                have ea : L ++ (A ++ (((levP (tbR r) (untP (tbR r) w h) 0) (q + 1)).2.1 ++ [(tbR r q, 0)])) = L ++ A ++ ((levP (tbR r) (untP (tbR r) w h) 0) (q + 1)).2.1 ++ [((tbR r q), 0)] := by simp only [List.append_assoc]
                rw [ea]; exact hll
              · rw [List.length_append, List.length_append]
                show i + (A.length + (((levP (tbR r) (untP (tbR r) w h) 0) (q + 1)).2.1.length + 1)) ≤ _
                omega
            · rw [lop_bad hsg noS] at hR
              rw [← hR]; exact ⟨rfl, Bool.false_ne_true⟩
          · skip
            refine z_aload_n F dX10_times_29 0 rfl 30 rfl ?_
            refine z_callVp F dX10_times_30 m_1153 iX10_look jX10_look rfl zc9 rfl (kX10_look υ hx hB2 hq) rfl (by omega) (Nat.le_of_ble_eq_true rfl) 33 rfl ?_
            refine z_bipush F dX10_times_33 37 (by decide) 35 rfl ?_
            refine z_icmp_ne F dX10_times_35 66 (by decide) 38 rfl (fun h35 => ?_) (fun h35 => ?_)
            · skip
              refine z_rv F dX10_times_66 ?_
              have hns : ¬ lvS (tbR r q) = nI 4 := by
                rw [ec, sg4 c hc, ← ec]; exact (fun z => by rcases z with z | z | z <;> first | exact h17 ((lk_eq (by decide) (by decide)).mpr z) | exact h26 ((lk_eq (by decide) (by decide)).mpr z) | exact h35 ((lk_eq (by decide) (by decide)).mpr z))
              rw [lop_no hns] at hR
              exact MdP.to hG hB2 hb2 (by rw [← hR]) (by rw [← hR]; exact hok.symm) (fun _ => by rw [← hR]; exact hLd2)
            · skip
              have hsg : lvS (tbR r q) = nI 4 := by
                rw [ec, sg4 c hc, ← ec]; exact Or.inr (Or.inr ((lk_eq (by decide) (by decide)).mp h35))
              have hqn : q < tN r := hT.lt (i := q) (by rw [(lk_eq (by decide) (by decide)).mp h35]; decide)
              have hgd := lev_gd hT (unt_gd hT hw h) 0 (by decide) (q + 1) (by omega)
              refine z_aload_n F dX10_times_38 0 rfl 39 rfl ?_
              refine z_callVp F dX10_times_39 m_1153 iX10_look jX10_look rfl zc9 rfl (kX10_look υ hx hB2 hq) rfl (by omega) (Nat.le_of_ble_eq_true rfl) 42 rfl ?_
              rw [lk_lt hqn]
              refine z_istore_n F dX10_times_42 [(0, _), (1, _)] rfl (by decide) 43 rfl ?_
              refine z_aload_n F dX10_times_43 0 rfl 44 rfl ?_
              refine z_dup F dX10_times_44 rfl 45 rfl ?_
              refine z_getI F zc9 dX10_times_45 rfl 13 (by decide) (by decide) (.inl m_943) rfl 48 rfl ?_
              rw [hB2.2.1]
              refine z_iconst F dX10_times_48 1 (by decide) 49 rfl ?_
              refine z_iadd F dX10_times_49 50 rfl ?_
              rw [nI_1]
              refine z_putI F zc9 dX10_times_50 rfl 13 (by decide) (by decide) (.inl m_943) rfl rfl z_pI 53 rfl ?_
              refine z_aload_n F dX10_times_53 0 rfl 54 rfl ?_
              refine z_callVv F dX10_times_54 m_1149 iX10_one jX10_one rfl zc9 rfl (hS (q + 1) (L ++ A) _ (by omega) (by rw [List.length_append]; omega) hB2.adv (hLd2.u0 (by decide)) (by rw [u2_k (by decide), hb2, hok]; rfl)) rfl (by omega) (Nat.le_of_ble_eq_true rfl) 57 rfl (fun s54 c54 => ?_)
              obtain ⟨t, ht, e12⟩ := c54.l
              refine z_aload_n F dX10_times_57 0 rfl 58 rfl ?_
              refine z_iload_n F dX10_times_58 1 rfl 59 rfl ?_
              refine z_iconst F dX10_times_59 0 (by decide) 60 rfl ?_
              refine z_callVu F dX10_times_60 m_1161 iX10_lays jX10_lays rfl zc9 rfl (kX10_lays s54 ht e12 _ _) rfl (by omega) (Nat.le_of_ble_eq_true rfl) 63 rfl ?_
              refine z_goto F dX10_times_63 4 (by decide) ?_
              have hgd2 : q + 1 ≤ ((levP (tbR r) (untP (tbR r) w h) 0) (q + 1)).1 := hgd.1
              refine z_sub [0] rfl (ih ((levP (tbR r) (untP (tbR r) w h) 0) (q + 1)).1 (A ++ (((levP (tbR r) (untP (tbR r) w h) 0) (q + 1)).2.1 ++ [(tbR r q, 0)])) ((levP (tbR r) (untP (tbR r) w h) 0) (q + 1)).2.2 _ (by omega) hgd.2.1 (lay_G (((hG.u0 (by decide)).tr c54.1))) (lay_B c54.2.1 e12) (by rw [lay_15]; exact c54.2.2.1) (fun okS => ?_) (fun noS => ?_))
              · have hl := c54.2.2.2 okS
                obtain ⟨g4, g5, -⟩ := hgd.2.2 okS
                have hg1 := hgd.2.1
                have hlen : (L ++ A ++ ((levP (tbR r) (untP (tbR r) w h) 0) (q + 1)).2.1).length < 60 := by rw [List.length_append, List.length_append]; omega
                have eq2 : t = (L ++ A ++ ((levP (tbR r) (untP (tbR r) w h) 0) (q + 1)).2.1).length := len_q hl (by omega) ht e12
                refine ⟨?_, ?_, by rw [← hR]; exact (lop_ok hsg okS (by decide)).symm⟩
                · rw [eq2]
                  have hll := lay_L hl hlen (x := (tbR r q)) (v := 0)
                  have ea : L ++ (A ++ (((levP (tbR r) (untP (tbR r) w h) 0) (q + 1)).2.1 ++ [(tbR r q, 0)])) = L ++ A ++ ((levP (tbR r) (untP (tbR r) w h) 0) (q + 1)).2.1 ++ [((tbR r q), 0)] := by simp only [List.append_assoc]
                  rw [ea]; exact hll
                · rw [List.length_append, List.length_append]
                  show i + (A.length + (((levP (tbR r) (untP (tbR r) w h) 0) (q + 1)).2.1.length + 1)) ≤ _
                  omega
              · rw [lop_bad hsg noS] at hR
                rw [← hR]; exact ⟨rfl, Bool.false_ne_true⟩
  refine z_aload_n F dX10_times_0 0 rfl 1 rfl ?_
  refine z_callVv F dX10_times_1 m_1149 iX10_one jX10_one rfl zc9 rfl (hS i L τ hi hL hB hLd h15) rfl (by omega) (Nat.le_of_ble_eq_true rfl) 4 rfl (fun s1 c1 => ?_)
  have hgd := lev_gd hT (unt_gd hT hw h) 0 (by decide) i hi
  exact loop4 61 ((levP (tbR r) (untP (tbR r) w h) 0) i).1 ((levP (tbR r) (untP (tbR r) w h) 0) i).2.1 ((levP (tbR r) (untP (tbR r) w h) 0) i).2.2 s1 (by omega) hgd.2.1 c1.1 c1.2.1 c1.2.2.1 (fun ok => ⟨c1.2.2.2 ok, (hgd.2.2 ok).1, (lev_ok (by decide) ok).symm⟩) (fun no => ⟨by rw [lev_no no], by rw [lev_no no]; exact no⟩)
set_option maxHeartbeats 2000000 in
set_option maxRecDepth 10000 in
theorem kX10_lev2 {l : Launch} {E : z_E} {r : Rw} {w : Nat} (hx : VX r) (hw : w < 2) {h : Nat} (hh : h ≤ 5) (hS : ∀ (i : Nat) (L : List (Int32 × Int32)) (τ : z_M) (_ : i ≤ tN r) (_ : L.length ≤ i) (_ : MdB τ r w (5 - (h)) i) (_ : MdL τ L) (_ : τ 0 15 = 0), z_C l E shM (2 + 7 * (h) + 1) yX10_times cX10_times 2 none [.ref (z_ad E 0)] τ (z_Pv (MdP τ r w (5 - (h)) L (levP (tbR r) (untP (tbR r) w (h)) 1 i)))) : ∀ (i : Nat) (L : List (Int32 × Int32)) (τ : z_M) (_ : i ≤ tN r) (_ : L.length ≤ i) (_ : MdB τ r w (5 - (h)) i) (_ : MdL τ L) (_ : τ 0 15 = 0), z_C l E shM (2 + 7 * (h) + 2) yX10_sum cX10_sum 2 none [.ref (z_ad E 0)] τ (z_Pv (MdP τ r w (5 - (h)) L (levP (tbR r) (untP (tbR r) w (h)) 2 i))) := by
  intro i L τ hi hL hB hLd h15
  have h60 := hx.2.1
  have hT := tbR_T hx
  refine z_intro iX10_sum (Nat.le_of_ble_eq_true rfl) (fun K F => ?_)
  have loop4 : ∀ (f q : Nat) (A : List (Int32 × Int32)) (ok : Bool) (υ : z_M) (_ : 60 < f + q) (_ : q ≤ tN r) (_ : MG τ υ) (_ : MdB υ r w (5 - h) q) (_ : υ 0 15 = bI (¬ ok = true)) (_ : ok = true → MdL υ (L ++ A) ∧ i + A.length ≤ q ∧ lopP (tbR r) 3 (levP (tbR r) (untP (tbR r) w h) 1) f q A = (levP (tbR r) (untP (tbR r) w h) 2) i) (_ : ¬ ok = true → ((levP (tbR r) (untP (tbR r) w h) 2) i).1 = q ∧ ¬ ((levP (tbR r) (untP (tbR r) w h) 2) i).2.2 = true), z_X l K E shM (2 + 7 * h + 2) 2 (z_Pv (MdP τ r w (5 - h) L ((levP (tbR r) (untP (tbR r) w h) 2) i))) 4 [(0, .ref (z_ad E 0))] [] υ := by
    intro f
    induction f with
    | zero => intro q A ok υ hf hq; omega
    | succ f ih =>
      intro q A ok υ hf hq hG hB2 hb2 hyes hno
      refine z_aload_n F dX10_sum_4 0 rfl 5 rfl ?_
      refine z_getI F zc9 dX10_sum_5 rfl 15 (by decide) (by decide) (.inl m_945) rfl 8 rfl ?_
      rw [hb2]
      refine z_if_ne F dX10_sum_8 57 (by decide) 11 rfl (fun h8 => ?_) (fun h8 => ?_)
      · skip
        refine z_rv F dX10_sum_57 ?_
        have hno2 : ¬ ok = true := bI1.mp h8
        obtain ⟨e1, e2⟩ := hno hno2
        exact MdP.to hG hB2 hb2 e1 (by cases z : ok; cases z2 : ((levP (tbR r) (untP (tbR r) w h) 2) i).2.2; rfl; exact absurd z2 e2; exact absurd z hno2) (fun z => absurd z hno2)
      · skip
        have hok : ok = true := Decidable.not_not.mp (bI0.mp h8)
        obtain ⟨hLd2, hlA, hR⟩ := hyes hok
        obtain ⟨c, hc, ec⟩ := hT.2 q
        refine z_aload_n F dX10_sum_11 0 rfl 12 rfl ?_
        refine z_callVp F dX10_sum_12 m_1153 iX10_look jX10_look rfl zc9 rfl (kX10_look υ hx hB2 hq) rfl (by omega) (Nat.le_of_ble_eq_true rfl) 15 rfl ?_
        refine z_bipush F dX10_sum_15 43 (by decide) 17 rfl ?_
        refine z_icmp_eq F dX10_sum_17 29 (by decide) 20 rfl (fun h17 => ?_) (fun h17 => ?_)
        · skip
          have hsg : lvS (tbR r q) = nI 3 := by
            rw [ec, sg3 c hc, ← ec]; exact Or.inl ((lk_eq (by decide) (by decide)).mp h17)
          have hqn : q < tN r := hT.lt (i := q) (by rw [(lk_eq (by decide) (by decide)).mp h17]; decide)
          have hgd := lev_gd hT (unt_gd hT hw h) 1 (by decide) (q + 1) (by omega)
          refine z_aload_n F dX10_sum_29 0 rfl 30 rfl ?_
          refine z_callVp F dX10_sum_30 m_1153 iX10_look jX10_look rfl zc9 rfl (kX10_look υ hx hB2 hq) rfl (by omega) (Nat.le_of_ble_eq_true rfl) 33 rfl ?_
          rw [lk_lt hqn]
          refine z_istore_n F dX10_sum_33 [(0, _), (1, _)] rfl (by decide) 34 rfl ?_
          refine z_aload_n F dX10_sum_34 0 rfl 35 rfl ?_
          refine z_dup F dX10_sum_35 rfl 36 rfl ?_
          refine z_getI F zc9 dX10_sum_36 rfl 13 (by decide) (by decide) (.inl m_943) rfl 39 rfl ?_
          rw [hB2.2.1]
          refine z_iconst F dX10_sum_39 1 (by decide) 40 rfl ?_
          refine z_iadd F dX10_sum_40 41 rfl ?_
          rw [nI_1]
          refine z_putI F zc9 dX10_sum_41 rfl 13 (by decide) (by decide) (.inl m_943) rfl rfl z_pI 44 rfl ?_
          refine z_aload_n F dX10_sum_44 0 rfl 45 rfl ?_
          refine z_callVv F dX10_sum_45 m_1145 iX10_times jX10_times rfl zc9 rfl (hS (q + 1) (L ++ A) _ (by omega) (by rw [List.length_append]; omega) hB2.adv (hLd2.u0 (by decide)) (by rw [u2_k (by decide), hb2, hok]; rfl)) rfl (by omega) (Nat.le_of_ble_eq_true rfl) 48 rfl (fun s45 c45 => ?_)
          obtain ⟨t, ht, e12⟩ := c45.l
          refine z_aload_n F dX10_sum_48 0 rfl 49 rfl ?_
          refine z_iload_n F dX10_sum_49 1 rfl 50 rfl ?_
          refine z_iconst F dX10_sum_50 0 (by decide) 51 rfl ?_
          refine z_callVu F dX10_sum_51 m_1161 iX10_lays jX10_lays rfl zc9 rfl (kX10_lays s45 ht e12 _ _) rfl (by omega) (Nat.le_of_ble_eq_true rfl) 54 rfl ?_
          refine z_goto F dX10_sum_54 4 (by decide) ?_
          have hgd2 : q + 1 ≤ ((levP (tbR r) (untP (tbR r) w h) 1) (q + 1)).1 := hgd.1
          refine z_sub [0] rfl (ih ((levP (tbR r) (untP (tbR r) w h) 1) (q + 1)).1 (A ++ (((levP (tbR r) (untP (tbR r) w h) 1) (q + 1)).2.1 ++ [(tbR r q, 0)])) ((levP (tbR r) (untP (tbR r) w h) 1) (q + 1)).2.2 _ (by omega) hgd.2.1 (lay_G (((hG.u0 (by decide)).tr c45.1))) (lay_B c45.2.1 e12) (by rw [lay_15]; exact c45.2.2.1) (fun okS => ?_) (fun noS => ?_))
          · have hl := c45.2.2.2 okS
            obtain ⟨g4, g5, -⟩ := hgd.2.2 okS
            have hg1 := hgd.2.1
            have hlen : (L ++ A ++ ((levP (tbR r) (untP (tbR r) w h) 1) (q + 1)).2.1).length < 60 := by rw [List.length_append, List.length_append]; omega
            have eq2 : t = (L ++ A ++ ((levP (tbR r) (untP (tbR r) w h) 1) (q + 1)).2.1).length := len_q hl (by omega) ht e12
            refine ⟨?_, ?_, by rw [← hR]; exact (lop_ok hsg okS (by decide)).symm⟩
            · rw [eq2]
              have hll := lay_L hl hlen (x := (tbR r q)) (v := 0)
              have ea : L ++ (A ++ (((levP (tbR r) (untP (tbR r) w h) 1) (q + 1)).2.1 ++ [(tbR r q, 0)])) = L ++ A ++ ((levP (tbR r) (untP (tbR r) w h) 1) (q + 1)).2.1 ++ [((tbR r q), 0)] := by simp only [List.append_assoc]
              rw [ea]; exact hll
            · rw [List.length_append, List.length_append]
              show i + (A.length + (((levP (tbR r) (untP (tbR r) w h) 1) (q + 1)).2.1.length + 1)) ≤ _
              omega
          · rw [lop_bad hsg noS] at hR
            rw [← hR]; exact ⟨rfl, Bool.false_ne_true⟩
        · skip
          refine z_aload_n F dX10_sum_20 0 rfl 21 rfl ?_
          refine z_callVp F dX10_sum_21 m_1153 iX10_look jX10_look rfl zc9 rfl (kX10_look υ hx hB2 hq) rfl (by omega) (Nat.le_of_ble_eq_true rfl) 24 rfl ?_
          refine z_bipush F dX10_sum_24 45 (by decide) 26 rfl ?_
          refine z_icmp_ne F dX10_sum_26 57 (by decide) 29 rfl (fun h26 => ?_) (fun h26 => ?_)
          · skip
            refine z_rv F dX10_sum_57 ?_
            have hns : ¬ lvS (tbR r q) = nI 3 := by
              rw [ec, sg3 c hc, ← ec]; exact (fun z => by rcases z with z | z <;> first | exact h17 ((lk_eq (by decide) (by decide)).mpr z) | exact h26 ((lk_eq (by decide) (by decide)).mpr z))
            rw [lop_no hns] at hR
            exact MdP.to hG hB2 hb2 (by rw [← hR]) (by rw [← hR]; exact hok.symm) (fun _ => by rw [← hR]; exact hLd2)
          · skip
            have hsg : lvS (tbR r q) = nI 3 := by
              rw [ec, sg3 c hc, ← ec]; exact Or.inr ((lk_eq (by decide) (by decide)).mp h26)
            have hqn : q < tN r := hT.lt (i := q) (by rw [(lk_eq (by decide) (by decide)).mp h26]; decide)
            have hgd := lev_gd hT (unt_gd hT hw h) 1 (by decide) (q + 1) (by omega)
            refine z_aload_n F dX10_sum_29 0 rfl 30 rfl ?_
            refine z_callVp F dX10_sum_30 m_1153 iX10_look jX10_look rfl zc9 rfl (kX10_look υ hx hB2 hq) rfl (by omega) (Nat.le_of_ble_eq_true rfl) 33 rfl ?_
            rw [lk_lt hqn]
            refine z_istore_n F dX10_sum_33 [(0, _), (1, _)] rfl (by decide) 34 rfl ?_
            refine z_aload_n F dX10_sum_34 0 rfl 35 rfl ?_
            refine z_dup F dX10_sum_35 rfl 36 rfl ?_
            refine z_getI F zc9 dX10_sum_36 rfl 13 (by decide) (by decide) (.inl m_943) rfl 39 rfl ?_
            rw [hB2.2.1]
            refine z_iconst F dX10_sum_39 1 (by decide) 40 rfl ?_
            refine z_iadd F dX10_sum_40 41 rfl ?_
            rw [nI_1]
            refine z_putI F zc9 dX10_sum_41 rfl 13 (by decide) (by decide) (.inl m_943) rfl rfl z_pI 44 rfl ?_
            refine z_aload_n F dX10_sum_44 0 rfl 45 rfl ?_
            refine z_callVv F dX10_sum_45 m_1145 iX10_times jX10_times rfl zc9 rfl (hS (q + 1) (L ++ A) _ (by omega) (by rw [List.length_append]; omega) hB2.adv (hLd2.u0 (by decide)) (by rw [u2_k (by decide), hb2, hok]; rfl)) rfl (by omega) (Nat.le_of_ble_eq_true rfl) 48 rfl (fun s45 c45 => ?_)
            obtain ⟨t, ht, e12⟩ := c45.l
            refine z_aload_n F dX10_sum_48 0 rfl 49 rfl ?_
            refine z_iload_n F dX10_sum_49 1 rfl 50 rfl ?_
            refine z_iconst F dX10_sum_50 0 (by decide) 51 rfl ?_
            refine z_callVu F dX10_sum_51 m_1161 iX10_lays jX10_lays rfl zc9 rfl (kX10_lays s45 ht e12 _ _) rfl (by omega) (Nat.le_of_ble_eq_true rfl) 54 rfl ?_
            refine z_goto F dX10_sum_54 4 (by decide) ?_
            have hgd2 : q + 1 ≤ ((levP (tbR r) (untP (tbR r) w h) 1) (q + 1)).1 := hgd.1
            refine z_sub [0] rfl (ih ((levP (tbR r) (untP (tbR r) w h) 1) (q + 1)).1 (A ++ (((levP (tbR r) (untP (tbR r) w h) 1) (q + 1)).2.1 ++ [(tbR r q, 0)])) ((levP (tbR r) (untP (tbR r) w h) 1) (q + 1)).2.2 _ (by omega) hgd.2.1 (lay_G (((hG.u0 (by decide)).tr c45.1))) (lay_B c45.2.1 e12) (by rw [lay_15]; exact c45.2.2.1) (fun okS => ?_) (fun noS => ?_))
            · have hl := c45.2.2.2 okS
              obtain ⟨g4, g5, -⟩ := hgd.2.2 okS
              have hg1 := hgd.2.1
              have hlen : (L ++ A ++ ((levP (tbR r) (untP (tbR r) w h) 1) (q + 1)).2.1).length < 60 := by rw [List.length_append, List.length_append]; omega
              have eq2 : t = (L ++ A ++ ((levP (tbR r) (untP (tbR r) w h) 1) (q + 1)).2.1).length := len_q hl (by omega) ht e12
              refine ⟨?_, ?_, by rw [← hR]; exact (lop_ok hsg okS (by decide)).symm⟩
              · rw [eq2]
                have hll := lay_L hl hlen (x := (tbR r q)) (v := 0)
                have ea : L ++ (A ++ (((levP (tbR r) (untP (tbR r) w h) 1) (q + 1)).2.1 ++ [(tbR r q, 0)])) = L ++ A ++ ((levP (tbR r) (untP (tbR r) w h) 1) (q + 1)).2.1 ++ [((tbR r q), 0)] := by simp only [List.append_assoc]
                rw [ea]; exact hll
              · rw [List.length_append, List.length_append]
                show i + (A.length + (((levP (tbR r) (untP (tbR r) w h) 1) (q + 1)).2.1.length + 1)) ≤ _
                omega
            · rw [lop_bad hsg noS] at hR
              rw [← hR]; exact ⟨rfl, Bool.false_ne_true⟩
  refine z_aload_n F dX10_sum_0 0 rfl 1 rfl ?_
  refine z_callVv F dX10_sum_1 m_1145 iX10_times jX10_times rfl zc9 rfl (hS i L τ hi hL hB hLd h15) rfl (by omega) (Nat.le_of_ble_eq_true rfl) 4 rfl (fun s1 c1 => ?_)
  have hgd := lev_gd hT (unt_gd hT hw h) 1 (by decide) i hi
  exact loop4 61 ((levP (tbR r) (untP (tbR r) w h) 1) i).1 ((levP (tbR r) (untP (tbR r) w h) 1) i).2.1 ((levP (tbR r) (untP (tbR r) w h) 1) i).2.2 s1 (by omega) hgd.2.1 c1.1 c1.2.1 c1.2.2.1 (fun ok => ⟨c1.2.2.2 ok, (hgd.2.2 ok).1, (lev_ok (by decide) ok).symm⟩) (fun no => ⟨by rw [lev_no no], by rw [lev_no no]; exact no⟩)
set_option maxHeartbeats 2000000 in
set_option maxRecDepth 10000 in
theorem kX10_lev3 {l : Launch} {E : z_E} {r : Rw} {w : Nat} (hx : VX r) (hw : w < 2) {h : Nat} (hh : h ≤ 5) (hS : ∀ (i : Nat) (L : List (Int32 × Int32)) (τ : z_M) (_ : i ≤ tN r) (_ : L.length ≤ i) (_ : MdB τ r w (5 - (h)) i) (_ : MdL τ L) (_ : τ 0 15 = 0), z_C l E shM (2 + 7 * (h) + 2) yX10_sum cX10_sum 2 none [.ref (z_ad E 0)] τ (z_Pv (MdP τ r w (5 - (h)) L (levP (tbR r) (untP (tbR r) w (h)) 2 i)))) : ∀ (i : Nat) (L : List (Int32 × Int32)) (τ : z_M) (_ : i ≤ tN r) (_ : L.length ≤ i) (_ : MdB τ r w (5 - (h)) i) (_ : MdL τ L) (_ : τ 0 15 = 0), z_C l E shM (2 + 7 * (h) + 3) yX10_compares cX10_compares 2 none [.ref (z_ad E 0)] τ (z_Pv (MdP τ r w (5 - (h)) L (levP (tbR r) (untP (tbR r) w (h)) 3 i))) := by
  intro i L τ hi hL hB hLd h15
  have h60 := hx.2.1
  have hT := tbR_T hx
  refine z_intro iX10_compares (Nat.le_of_ble_eq_true rfl) (fun K F => ?_)
  refine z_aload_n F dX10_compares_0 0 rfl 1 rfl ?_
  refine z_callVv F dX10_compares_1 m_1141 iX10_sum jX10_sum rfl zc9 rfl (hS i L τ hi hL hB hLd h15) rfl (by omega) (Nat.le_of_ble_eq_true rfl) 4 rfl (fun s1 c1 => ?_)
  have hgd := lev_gd hT (unt_gd hT hw h) 2 (by decide) i hi
  obtain ⟨q, hq⟩ : ∃ q, ((levP (tbR r) (untP (tbR r) w h) 2) i).1 = q := ⟨_, rfl⟩
  have hB2 := c1.2.1
  rw [hq] at hB2
  have hqt : q ≤ tN r := hq ▸ hgd.2.1
  obtain ⟨c, hc, ec⟩ := hT.2 q
  refine z_aload_n F dX10_compares_4 0 rfl 5 rfl ?_
  refine z_callVp F dX10_compares_5 m_1153 iX10_look jX10_look rfl zc9 rfl (kX10_look s1 hx hB2 hqt) rfl (by omega) (Nat.le_of_ble_eq_true rfl) 8 rfl ?_
  refine z_istore_n F dX10_compares_8 [(0, _), (1, _)] rfl (by decide) 9 rfl ?_
  refine z_aload_n F dX10_compares_9 0 rfl 10 rfl ?_
  refine z_getI F zc9 dX10_compares_10 rfl 15 (by decide) (by decide) (.inl m_945) rfl 13 rfl ?_
  rw [c1.2.2.1]
  refine z_if_ne F dX10_compares_13 54 (by decide) 16 rfl (fun h13 => ?_) (fun h13 => ?_)
  · skip
    refine z_rv F dX10_compares_54 ?_
    have no : ¬ (levP (tbR r) (untP (tbR r) w h) 2 i).2.2 = true := bI1.mp h13
    rw [lev_no no]
    exact c1
  · skip
    have hok : ((levP (tbR r) (untP (tbR r) w h) 2) i).2.2 = true := Decidable.not_not.mp (bI0.mp h13)
    have hlA := (hgd.2.2 hok).1
    rw [hq] at hlA
    refine z_iload_n F dX10_compares_16 1 rfl 17 rfl ?_
    refine z_bipush F dX10_compares_17 60 (by decide) 19 rfl ?_
    refine z_icmp_eq F dX10_compares_19 34 (by decide) 22 rfl (fun h19 => ?_) (fun h19 => ?_)
    · skip
      have hsg : lvS (tbR r q) = nI 2 := by
        rw [ec, sg2 c hc, ← ec]; exact Or.inl ((lk_eq (by decide) (by decide)).mp h19)
      have hqn : q < tN r := hT.lt (i := q) (by rw [(lk_eq (by decide) (by decide)).mp h19]; decide)
      have hgd2 := lev_gd hT (unt_gd hT hw h) 2 (by decide) (q + 1) (by omega)
      rw [lk_lt hqn]
      refine z_aload_n F dX10_compares_34 0 rfl 35 rfl ?_
      refine z_dup F dX10_compares_35 rfl 36 rfl ?_
      refine z_getI F zc9 dX10_compares_36 rfl 13 (by decide) (by decide) (.inl m_943) rfl 39 rfl ?_
      rw [hB2.2.1]
      refine z_iconst F dX10_compares_39 1 (by decide) 40 rfl ?_
      refine z_iadd F dX10_compares_40 41 rfl ?_
      rw [nI_1]
      refine z_putI F zc9 dX10_compares_41 rfl 13 (by decide) (by decide) (.inl m_943) rfl rfl z_pI 44 rfl ?_
      refine z_aload_n F dX10_compares_44 0 rfl 45 rfl ?_
      refine z_callVv F dX10_compares_45 m_1141 iX10_sum jX10_sum rfl zc9 rfl (hS (q + 1) (L ++ ((levP (tbR r) (untP (tbR r) w h) 2) i).2.1) _ (by omega) (by rw [List.length_append]; omega) hB2.adv ((c1.2.2.2 hok).u0 (by decide)) (by rw [u2_k (by decide), c1.2.2.1, bI_f (by simp [hok])])) rfl (by omega) (Nat.le_of_ble_eq_true rfl) 48 rfl (fun s45 c45 => ?_)
      obtain ⟨t, ht, e12⟩ := c45.l
      refine z_aload_n F dX10_compares_48 0 rfl 49 rfl ?_
      refine z_iload_n F dX10_compares_49 1 rfl 50 rfl ?_
      refine z_iconst F dX10_compares_50 0 (by decide) 51 rfl ?_
      refine z_callVu F dX10_compares_51 m_1161 iX10_lays jX10_lays rfl zc9 rfl (kX10_lays s45 ht e12 _ _) rfl (by omega) (Nat.le_of_ble_eq_true rfl) 54 rfl ?_
      refine z_rv F dX10_compares_54 ?_
      rw [lev_ok (k := 2) (by decide) hok, hq]
      by_cases okS : ((levP (tbR r) (untP (tbR r) w h) 2) (q + 1)).2.2 = true
      · have hl := c45.2.2.2 okS
        obtain ⟨g4, g5, -⟩ := hgd2.2.2 okS
        have hg1 := hgd2.2.1
        have hlen : (L ++ ((levP (tbR r) (untP (tbR r) w h) 2) i).2.1 ++ ((levP (tbR r) (untP (tbR r) w h) 2) (q + 1)).2.1).length < 60 := by rw [List.length_append, List.length_append]; omega
        have eq2 : t = (L ++ ((levP (tbR r) (untP (tbR r) w h) 2) i).2.1 ++ ((levP (tbR r) (untP (tbR r) w h) 2) (q + 1)).2.1).length := len_q hl (by omega) ht e12
        rw [lop_2 hsg okS]
        refine ⟨lay_G ((c1.1.u0 (by decide)).tr c45.1), lay_B c45.2.1 e12, by rw [lay_15, c45.2.2.1, bI_f (by simp [okS])]; rfl, fun _ => ?_⟩
        rw [eq2]
        have hll := lay_L hl hlen (x := tbR r q) (v := 0)
        have ea : L ++ (((levP (tbR r) (untP (tbR r) w h) 2) i).2.1 ++ (((levP (tbR r) (untP (tbR r) w h) 2) (q + 1)).2.1 ++ [(tbR r q, 0)])) = L ++ ((levP (tbR r) (untP (tbR r) w h) 2) i).2.1 ++ ((levP (tbR r) (untP (tbR r) w h) 2) (q + 1)).2.1 ++ [(tbR r q, 0)] := by simp only [List.append_assoc]
        show MdL _ (L ++ (((levP (tbR r) (untP (tbR r) w h) 2) i).2.1 ++ (((levP (tbR r) (untP (tbR r) w h) 2) (q + 1)).2.1 ++ [(tbR r q, 0)])))
        rw [ea]; exact hll
      · rw [lop_bad hsg okS]
        exact ⟨lay_G ((c1.1.u0 (by decide)).tr c45.1), lay_B c45.2.1 e12, by rw [lay_15, c45.2.2.1, bI_t okS]; rfl, fun z => absurd z Bool.false_ne_true⟩
    · skip
      refine z_iload_n F dX10_compares_22 1 rfl 23 rfl ?_
      refine z_bipush F dX10_compares_23 61 (by decide) 25 rfl ?_
      refine z_icmp_eq F dX10_compares_25 34 (by decide) 28 rfl (fun h25 => ?_) (fun h25 => ?_)
      · skip
        have hsg : lvS (tbR r q) = nI 2 := by
          rw [ec, sg2 c hc, ← ec]; exact Or.inr (Or.inl ((lk_eq (by decide) (by decide)).mp h25))
        have hqn : q < tN r := hT.lt (i := q) (by rw [(lk_eq (by decide) (by decide)).mp h25]; decide)
        have hgd2 := lev_gd hT (unt_gd hT hw h) 2 (by decide) (q + 1) (by omega)
        rw [lk_lt hqn]
        refine z_aload_n F dX10_compares_34 0 rfl 35 rfl ?_
        refine z_dup F dX10_compares_35 rfl 36 rfl ?_
        refine z_getI F zc9 dX10_compares_36 rfl 13 (by decide) (by decide) (.inl m_943) rfl 39 rfl ?_
        rw [hB2.2.1]
        refine z_iconst F dX10_compares_39 1 (by decide) 40 rfl ?_
        refine z_iadd F dX10_compares_40 41 rfl ?_
        rw [nI_1]
        refine z_putI F zc9 dX10_compares_41 rfl 13 (by decide) (by decide) (.inl m_943) rfl rfl z_pI 44 rfl ?_
        refine z_aload_n F dX10_compares_44 0 rfl 45 rfl ?_
        refine z_callVv F dX10_compares_45 m_1141 iX10_sum jX10_sum rfl zc9 rfl (hS (q + 1) (L ++ ((levP (tbR r) (untP (tbR r) w h) 2) i).2.1) _ (by omega) (by rw [List.length_append]; omega) hB2.adv ((c1.2.2.2 hok).u0 (by decide)) (by rw [u2_k (by decide), c1.2.2.1, bI_f (by simp [hok])])) rfl (by omega) (Nat.le_of_ble_eq_true rfl) 48 rfl (fun s45 c45 => ?_)
        obtain ⟨t, ht, e12⟩ := c45.l
        refine z_aload_n F dX10_compares_48 0 rfl 49 rfl ?_
        refine z_iload_n F dX10_compares_49 1 rfl 50 rfl ?_
        refine z_iconst F dX10_compares_50 0 (by decide) 51 rfl ?_
        refine z_callVu F dX10_compares_51 m_1161 iX10_lays jX10_lays rfl zc9 rfl (kX10_lays s45 ht e12 _ _) rfl (by omega) (Nat.le_of_ble_eq_true rfl) 54 rfl ?_
        refine z_rv F dX10_compares_54 ?_
        rw [lev_ok (k := 2) (by decide) hok, hq]
        by_cases okS : ((levP (tbR r) (untP (tbR r) w h) 2) (q + 1)).2.2 = true
        · have hl := c45.2.2.2 okS
          obtain ⟨g4, g5, -⟩ := hgd2.2.2 okS
          have hg1 := hgd2.2.1
          have hlen : (L ++ ((levP (tbR r) (untP (tbR r) w h) 2) i).2.1 ++ ((levP (tbR r) (untP (tbR r) w h) 2) (q + 1)).2.1).length < 60 := by rw [List.length_append, List.length_append]; omega
          have eq2 : t = (L ++ ((levP (tbR r) (untP (tbR r) w h) 2) i).2.1 ++ ((levP (tbR r) (untP (tbR r) w h) 2) (q + 1)).2.1).length := len_q hl (by omega) ht e12
          rw [lop_2 hsg okS]
          refine ⟨lay_G ((c1.1.u0 (by decide)).tr c45.1), lay_B c45.2.1 e12, by rw [lay_15, c45.2.2.1, bI_f (by simp [okS])]; rfl, fun _ => ?_⟩
          rw [eq2]
          have hll := lay_L hl hlen (x := tbR r q) (v := 0)
          have ea : L ++ (((levP (tbR r) (untP (tbR r) w h) 2) i).2.1 ++ (((levP (tbR r) (untP (tbR r) w h) 2) (q + 1)).2.1 ++ [(tbR r q, 0)])) = L ++ ((levP (tbR r) (untP (tbR r) w h) 2) i).2.1 ++ ((levP (tbR r) (untP (tbR r) w h) 2) (q + 1)).2.1 ++ [(tbR r q, 0)] := by simp only [List.append_assoc]
          show MdL _ (L ++ (((levP (tbR r) (untP (tbR r) w h) 2) i).2.1 ++ (((levP (tbR r) (untP (tbR r) w h) 2) (q + 1)).2.1 ++ [(tbR r q, 0)])))
          rw [ea]; exact hll
        · rw [lop_bad hsg okS]
          exact ⟨lay_G ((c1.1.u0 (by decide)).tr c45.1), lay_B c45.2.1 e12, by rw [lay_15, c45.2.2.1, bI_t okS]; rfl, fun z => absurd z Bool.false_ne_true⟩
      · skip
        refine z_iload_n F dX10_compares_28 1 rfl 29 rfl ?_
        refine z_bipush F dX10_compares_29 62 (by decide) 31 rfl ?_
        refine z_icmp_ne F dX10_compares_31 54 (by decide) 34 rfl (fun h31 => ?_) (fun h31 => ?_)
        · skip
          refine z_rv F dX10_compares_54 ?_
          have hns : ¬ lvS (tbR r q) = nI 2 := by
            rw [ec, sg2 c hc, ← ec]
            intro z
            rcases z with z | z | z
            · exact h19 ((lk_eq (by decide) (by decide)).mpr z)
            · exact h25 ((lk_eq (by decide) (by decide)).mpr z)
            · exact h31 ((lk_eq (by decide) (by decide)).mpr z)
          rw [lev_ok (k := 2) (by decide) hok, hq, lop_no hns]
          exact ⟨c1.1, hB2, by rw [c1.2.2.1, bI_f (by simp [hok])]; rfl, fun _ => c1.2.2.2 hok⟩
        · skip
          have hsg : lvS (tbR r q) = nI 2 := by
            rw [ec, sg2 c hc, ← ec]; exact Or.inr (Or.inr ((lk_eq (by decide) (by decide)).mp h31))
          have hqn : q < tN r := hT.lt (i := q) (by rw [(lk_eq (by decide) (by decide)).mp h31]; decide)
          have hgd2 := lev_gd hT (unt_gd hT hw h) 2 (by decide) (q + 1) (by omega)
          rw [lk_lt hqn]
          refine z_aload_n F dX10_compares_34 0 rfl 35 rfl ?_
          refine z_dup F dX10_compares_35 rfl 36 rfl ?_
          refine z_getI F zc9 dX10_compares_36 rfl 13 (by decide) (by decide) (.inl m_943) rfl 39 rfl ?_
          rw [hB2.2.1]
          refine z_iconst F dX10_compares_39 1 (by decide) 40 rfl ?_
          refine z_iadd F dX10_compares_40 41 rfl ?_
          rw [nI_1]
          refine z_putI F zc9 dX10_compares_41 rfl 13 (by decide) (by decide) (.inl m_943) rfl rfl z_pI 44 rfl ?_
          refine z_aload_n F dX10_compares_44 0 rfl 45 rfl ?_
          refine z_callVv F dX10_compares_45 m_1141 iX10_sum jX10_sum rfl zc9 rfl (hS (q + 1) (L ++ ((levP (tbR r) (untP (tbR r) w h) 2) i).2.1) _ (by omega) (by rw [List.length_append]; omega) hB2.adv ((c1.2.2.2 hok).u0 (by decide)) (by rw [u2_k (by decide), c1.2.2.1, bI_f (by simp [hok])])) rfl (by omega) (Nat.le_of_ble_eq_true rfl) 48 rfl (fun s45 c45 => ?_)
          obtain ⟨t, ht, e12⟩ := c45.l
          refine z_aload_n F dX10_compares_48 0 rfl 49 rfl ?_
          refine z_iload_n F dX10_compares_49 1 rfl 50 rfl ?_
          refine z_iconst F dX10_compares_50 0 (by decide) 51 rfl ?_
          refine z_callVu F dX10_compares_51 m_1161 iX10_lays jX10_lays rfl zc9 rfl (kX10_lays s45 ht e12 _ _) rfl (by omega) (Nat.le_of_ble_eq_true rfl) 54 rfl ?_
          refine z_rv F dX10_compares_54 ?_
          rw [lev_ok (k := 2) (by decide) hok, hq]
          by_cases okS : ((levP (tbR r) (untP (tbR r) w h) 2) (q + 1)).2.2 = true
          · have hl := c45.2.2.2 okS
            obtain ⟨g4, g5, -⟩ := hgd2.2.2 okS
            have hg1 := hgd2.2.1
            have hlen : (L ++ ((levP (tbR r) (untP (tbR r) w h) 2) i).2.1 ++ ((levP (tbR r) (untP (tbR r) w h) 2) (q + 1)).2.1).length < 60 := by rw [List.length_append, List.length_append]; omega
            have eq2 : t = (L ++ ((levP (tbR r) (untP (tbR r) w h) 2) i).2.1 ++ ((levP (tbR r) (untP (tbR r) w h) 2) (q + 1)).2.1).length := len_q hl (by omega) ht e12
            rw [lop_2 hsg okS]
            refine ⟨lay_G ((c1.1.u0 (by decide)).tr c45.1), lay_B c45.2.1 e12, by rw [lay_15, c45.2.2.1, bI_f (by simp [okS])]; rfl, fun _ => ?_⟩
            rw [eq2]
            have hll := lay_L hl hlen (x := tbR r q) (v := 0)
            have ea : L ++ (((levP (tbR r) (untP (tbR r) w h) 2) i).2.1 ++ (((levP (tbR r) (untP (tbR r) w h) 2) (q + 1)).2.1 ++ [(tbR r q, 0)])) = L ++ ((levP (tbR r) (untP (tbR r) w h) 2) i).2.1 ++ ((levP (tbR r) (untP (tbR r) w h) 2) (q + 1)).2.1 ++ [(tbR r q, 0)] := by simp only [List.append_assoc]
            show MdL _ (L ++ (((levP (tbR r) (untP (tbR r) w h) 2) i).2.1 ++ (((levP (tbR r) (untP (tbR r) w h) 2) (q + 1)).2.1 ++ [(tbR r q, 0)])))
            rw [ea]; exact hll
          · rw [lop_bad hsg okS]
            exact ⟨lay_G ((c1.1.u0 (by decide)).tr c45.1), lay_B c45.2.1 e12, by rw [lay_15, c45.2.2.1, bI_t okS]; rfl, fun z => absurd z Bool.false_ne_true⟩
set_option maxHeartbeats 2000000 in
set_option maxRecDepth 10000 in
theorem kX10_lev4 {l : Launch} {E : z_E} {r : Rw} {w : Nat} (hx : VX r) (hw : w < 2) {h : Nat} (hh : h ≤ 5) (hS : ∀ (i : Nat) (L : List (Int32 × Int32)) (τ : z_M) (_ : i ≤ tN r) (_ : L.length ≤ i) (_ : MdB τ r w (5 - (h)) i) (_ : MdL τ L) (_ : τ 0 15 = 0), z_C l E shM (2 + 7 * (h) + 3) yX10_compares cX10_compares 2 none [.ref (z_ad E 0)] τ (z_Pv (MdP τ r w (5 - (h)) L (levP (tbR r) (untP (tbR r) w (h)) 3 i)))) : ∀ (i : Nat) (L : List (Int32 × Int32)) (τ : z_M) (_ : i ≤ tN r) (_ : L.length ≤ i) (_ : MdB τ r w (5 - (h)) i) (_ : MdL τ L) (_ : τ 0 15 = 0), z_C l E shM (2 + 7 * (h) + 4) yX10_all cX10_all 1 none [.ref (z_ad E 0)] τ (z_Pv (MdP τ r w (5 - (h)) L (levP (tbR r) (untP (tbR r) w (h)) 4 i))) := by
  intro i L τ hi hL hB hLd h15
  have h60 := hx.2.1
  have hT := tbR_T hx
  refine z_intro iX10_all (Nat.le_of_ble_eq_true rfl) (fun K F => ?_)
  have loop4 : ∀ (f q : Nat) (A : List (Int32 × Int32)) (ok : Bool) (υ : z_M) (_ : 60 < f + q) (_ : q ≤ tN r) (_ : MG τ υ) (_ : MdB υ r w (5 - h) q) (_ : υ 0 15 = bI (¬ ok = true)) (_ : ok = true → MdL υ (L ++ A) ∧ i + A.length ≤ q ∧ lopP (tbR r) 1 (levP (tbR r) (untP (tbR r) w h) 3) f q A = (levP (tbR r) (untP (tbR r) w h) 4) i) (_ : ¬ ok = true → ((levP (tbR r) (untP (tbR r) w h) 4) i).1 = q ∧ ¬ ((levP (tbR r) (untP (tbR r) w h) 4) i).2.2 = true), z_X l K E shM (2 + 7 * h + 4) 1 (z_Pv (MdP τ r w (5 - h) L ((levP (tbR r) (untP (tbR r) w h) 4) i))) 4 [(0, .ref (z_ad E 0))] [] υ := by
    intro f
    induction f with
    | zero => intro q A ok υ hf hq; omega
    | succ f ih =>
      intro q A ok υ hf hq hG hB2 hb2 hyes hno
      refine z_aload_n F dX10_all_4 0 rfl 5 rfl ?_
      refine z_getI F zc9 dX10_all_5 rfl 15 (by decide) (by decide) (.inl m_945) rfl 8 rfl ?_
      rw [hb2]
      refine z_if_ne F dX10_all_8 44 (by decide) 11 rfl (fun h8 => ?_) (fun h8 => ?_)
      · skip
        refine z_rv F dX10_all_44 ?_
        have hno2 : ¬ ok = true := bI1.mp h8
        obtain ⟨e1, e2⟩ := hno hno2
        exact MdP.to hG hB2 hb2 e1 (by cases z : ok; cases z2 : ((levP (tbR r) (untP (tbR r) w h) 4) i).2.2; rfl; exact absurd z2 e2; exact absurd z hno2) (fun z => absurd z hno2)
      · skip
        have hok : ok = true := Decidable.not_not.mp (bI0.mp h8)
        obtain ⟨hLd2, hlA, hR⟩ := hyes hok
        obtain ⟨c, hc, ec⟩ := hT.2 q
        refine z_aload_n F dX10_all_11 0 rfl 12 rfl ?_
        refine z_callVp F dX10_all_12 m_1153 iX10_look jX10_look rfl zc9 rfl (kX10_look υ hx hB2 hq) rfl (by omega) (Nat.le_of_ble_eq_true rfl) 15 rfl ?_
        refine z_bipush F dX10_all_15 38 (by decide) 17 rfl ?_
        refine z_icmp_ne F dX10_all_17 44 (by decide) 20 rfl (fun h17 => ?_) (fun h17 => ?_)
        · skip
          refine z_rv F dX10_all_44 ?_
          have hns : ¬ lvS (tbR r q) = nI 1 := by
            rw [ec, sg1 c hc, ← ec]; exact (fun z => h17 ((lk_eq (by decide) (by decide)).mpr z))
          rw [lop_no hns] at hR
          exact MdP.to hG hB2 hb2 (by rw [← hR]) (by rw [← hR]; exact hok.symm) (fun _ => by rw [← hR]; exact hLd2)
        · skip
          have hsg : lvS (tbR r q) = nI 1 := by
            rw [ec, sg1 c hc, ← ec]; exact (lk_eq (by decide) (by decide)).mp h17
          have hqn : q < tN r := hT.lt (i := q) (by rw [(lk_eq (by decide) (by decide)).mp h17]; decide)
          have hgd := lev_gd hT (unt_gd hT hw h) 3 (by decide) (q + 1) (by omega)
          have hbq : tbR r q = 38 := (lk_eq (by decide) (by decide)).mp h17
          refine z_aload_n F dX10_all_20 0 rfl 21 rfl ?_
          refine z_dup F dX10_all_21 rfl 22 rfl ?_
          refine z_getI F zc9 dX10_all_22 rfl 13 (by decide) (by decide) (.inl m_943) rfl 25 rfl ?_
          rw [hB2.2.1]
          refine z_iconst F dX10_all_25 1 (by decide) 26 rfl ?_
          refine z_iadd F dX10_all_26 27 rfl ?_
          rw [nI_1]
          refine z_putI F zc9 dX10_all_27 rfl 13 (by decide) (by decide) (.inl m_943) rfl rfl z_pI 30 rfl ?_
          refine z_aload_n F dX10_all_30 0 rfl 31 rfl ?_
          refine z_callVv F dX10_all_31 m_1137 iX10_compares jX10_compares rfl zc9 rfl (hS (q + 1) (L ++ A) _ (by omega) (by rw [List.length_append]; omega) hB2.adv (hLd2.u0 (by decide)) (by rw [u2_k (by decide), hb2, hok]; rfl)) rfl (by omega) (Nat.le_of_ble_eq_true rfl) 34 rfl (fun s31 c31 => ?_)
          obtain ⟨t, ht, e12⟩ := c31.l
          refine z_aload_n F dX10_all_34 0 rfl 35 rfl ?_
          refine z_bipush F dX10_all_35 38 (by decide) 37 rfl ?_
          refine z_iconst F dX10_all_37 0 (by decide) 38 rfl ?_
          refine z_callVu F dX10_all_38 m_1161 iX10_lays jX10_lays rfl zc9 rfl (kX10_lays s31 ht e12 _ _) rfl (by omega) (Nat.le_of_ble_eq_true rfl) 41 rfl ?_
          refine z_goto F dX10_all_41 4 (by decide) ?_
          have hgd2 : q + 1 ≤ ((levP (tbR r) (untP (tbR r) w h) 3) (q + 1)).1 := hgd.1
          refine (ih ((levP (tbR r) (untP (tbR r) w h) 3) (q + 1)).1 (A ++ (((levP (tbR r) (untP (tbR r) w h) 3) (q + 1)).2.1 ++ [(tbR r q, 0)])) ((levP (tbR r) (untP (tbR r) w h) 3) (q + 1)).2.2 _ (by omega) hgd.2.1 (lay_G (((hG.u0 (by decide)).tr c31.1))) (lay_B c31.2.1 e12) (by rw [lay_15]; exact c31.2.2.1) (fun okS => ?_) (fun noS => ?_))
          · have hl := c31.2.2.2 okS
            obtain ⟨g4, g5, -⟩ := hgd.2.2 okS
            have hg1 := hgd.2.1
            have hlen : (L ++ A ++ ((levP (tbR r) (untP (tbR r) w h) 3) (q + 1)).2.1).length < 60 := by rw [List.length_append, List.length_append]; omega
            have eq2 : t = (L ++ A ++ ((levP (tbR r) (untP (tbR r) w h) 3) (q + 1)).2.1).length := len_q hl (by omega) ht e12
            refine ⟨?_, ?_, by rw [← hR]; exact (lop_ok hsg okS (by decide)).symm⟩
            · rw [eq2]
              have hll := lay_L hl hlen (x := 38) (v := 0)
              have ea : L ++ (A ++ (((levP (tbR r) (untP (tbR r) w h) 3) (q + 1)).2.1 ++ [(tbR r q, 0)])) = L ++ A ++ ((levP (tbR r) (untP (tbR r) w h) 3) (q + 1)).2.1 ++ [(38, 0)] := by rw [hbq]; simp only [List.append_assoc]
              rw [ea]; exact hll
            · rw [List.length_append, List.length_append]
              show i + (A.length + (((levP (tbR r) (untP (tbR r) w h) 3) (q + 1)).2.1.length + 1)) ≤ _
              omega
          · rw [lop_bad hsg noS] at hR
            rw [← hR]; exact ⟨rfl, Bool.false_ne_true⟩
  refine z_aload_n F dX10_all_0 0 rfl 1 rfl ?_
  refine z_callVv F dX10_all_1 m_1137 iX10_compares jX10_compares rfl zc9 rfl (hS i L τ hi hL hB hLd h15) rfl (by omega) (Nat.le_of_ble_eq_true rfl) 4 rfl (fun s1 c1 => ?_)
  have hgd := lev_gd hT (unt_gd hT hw h) 3 (by decide) i hi
  exact loop4 61 ((levP (tbR r) (untP (tbR r) w h) 3) i).1 ((levP (tbR r) (untP (tbR r) w h) 3) i).2.1 ((levP (tbR r) (untP (tbR r) w h) 3) i).2.2 s1 (by omega) hgd.2.1 c1.1 c1.2.1 c1.2.2.1 (fun ok => ⟨c1.2.2.2 ok, (hgd.2.2 ok).1, (lev_ok (by decide) ok).symm⟩) (fun no => ⟨by rw [lev_no no], by rw [lev_no no]; exact no⟩)
set_option maxHeartbeats 2000000 in
set_option maxRecDepth 10000 in
theorem kX10_lev5 {l : Launch} {E : z_E} {r : Rw} {w : Nat} (hx : VX r) (hw : w < 2) {h : Nat} (hh : h ≤ 5) (hS : ∀ (i : Nat) (L : List (Int32 × Int32)) (τ : z_M) (_ : i ≤ tN r) (_ : L.length ≤ i) (_ : MdB τ r w (5 - (h)) i) (_ : MdL τ L) (_ : τ 0 15 = 0), z_C l E shM (2 + 7 * (h) + 4) yX10_all cX10_all 1 none [.ref (z_ad E 0)] τ (z_Pv (MdP τ r w (5 - (h)) L (levP (tbR r) (untP (tbR r) w (h)) 4 i)))) : ∀ (i : Nat) (L : List (Int32 × Int32)) (τ : z_M) (_ : i ≤ tN r) (_ : L.length ≤ i) (_ : MdB τ r w (5 - (h)) i) (_ : MdL τ L) (_ : τ 0 15 = 0), z_C l E shM (2 + 7 * (h) + 5) yX10_any cX10_any 1 none [.ref (z_ad E 0)] τ (z_Pv (MdP τ r w (5 - (h)) L (levP (tbR r) (untP (tbR r) w (h)) 5 i))) := by
  intro i L τ hi hL hB hLd h15
  have h60 := hx.2.1
  have hT := tbR_T hx
  refine z_intro iX10_any (Nat.le_of_ble_eq_true rfl) (fun K F => ?_)
  have loop4 : ∀ (f q : Nat) (A : List (Int32 × Int32)) (ok : Bool) (υ : z_M) (_ : 60 < f + q) (_ : q ≤ tN r) (_ : MG τ υ) (_ : MdB υ r w (5 - h) q) (_ : υ 0 15 = bI (¬ ok = true)) (_ : ok = true → MdL υ (L ++ A) ∧ i + A.length ≤ q ∧ lopP (tbR r) 0 (levP (tbR r) (untP (tbR r) w h) 4) f q A = (levP (tbR r) (untP (tbR r) w h) 5) i) (_ : ¬ ok = true → ((levP (tbR r) (untP (tbR r) w h) 5) i).1 = q ∧ ¬ ((levP (tbR r) (untP (tbR r) w h) 5) i).2.2 = true), z_X l K E shM (2 + 7 * h + 5) 1 (z_Pv (MdP τ r w (5 - h) L ((levP (tbR r) (untP (tbR r) w h) 5) i))) 4 [(0, .ref (z_ad E 0))] [] υ := by
    intro f
    induction f with
    | zero => intro q A ok υ hf hq; omega
    | succ f ih =>
      intro q A ok υ hf hq hG hB2 hb2 hyes hno
      refine z_aload_n F dX10_any_4 0 rfl 5 rfl ?_
      refine z_getI F zc9 dX10_any_5 rfl 15 (by decide) (by decide) (.inl m_945) rfl 8 rfl ?_
      rw [hb2]
      refine z_if_ne F dX10_any_8 44 (by decide) 11 rfl (fun h8 => ?_) (fun h8 => ?_)
      · skip
        refine z_rv F dX10_any_44 ?_
        have hno2 : ¬ ok = true := bI1.mp h8
        obtain ⟨e1, e2⟩ := hno hno2
        exact MdP.to hG hB2 hb2 e1 (by cases z : ok; cases z2 : ((levP (tbR r) (untP (tbR r) w h) 5) i).2.2; rfl; exact absurd z2 e2; exact absurd z hno2) (fun z => absurd z hno2)
      · skip
        have hok : ok = true := Decidable.not_not.mp (bI0.mp h8)
        obtain ⟨hLd2, hlA, hR⟩ := hyes hok
        obtain ⟨c, hc, ec⟩ := hT.2 q
        refine z_aload_n F dX10_any_11 0 rfl 12 rfl ?_
        refine z_callVp F dX10_any_12 m_1153 iX10_look jX10_look rfl zc9 rfl (kX10_look υ hx hB2 hq) rfl (by omega) (Nat.le_of_ble_eq_true rfl) 15 rfl ?_
        refine z_bipush F dX10_any_15 124 (by decide) 17 rfl ?_
        refine z_icmp_ne F dX10_any_17 44 (by decide) 20 rfl (fun h17 => ?_) (fun h17 => ?_)
        · skip
          refine z_rv F dX10_any_44 ?_
          have hns : ¬ lvS (tbR r q) = nI 0 := by
            rw [ec, sg0 c hc, ← ec]; exact (fun z => h17 ((lk_eq (by decide) (by decide)).mpr z))
          rw [lop_no hns] at hR
          exact MdP.to hG hB2 hb2 (by rw [← hR]) (by rw [← hR]; exact hok.symm) (fun _ => by rw [← hR]; exact hLd2)
        · skip
          have hsg : lvS (tbR r q) = nI 0 := by
            rw [ec, sg0 c hc, ← ec]; exact (lk_eq (by decide) (by decide)).mp h17
          have hqn : q < tN r := hT.lt (i := q) (by rw [(lk_eq (by decide) (by decide)).mp h17]; decide)
          have hgd := lev_gd hT (unt_gd hT hw h) 4 (by decide) (q + 1) (by omega)
          have hbq : tbR r q = 124 := (lk_eq (by decide) (by decide)).mp h17
          refine z_aload_n F dX10_any_20 0 rfl 21 rfl ?_
          refine z_dup F dX10_any_21 rfl 22 rfl ?_
          refine z_getI F zc9 dX10_any_22 rfl 13 (by decide) (by decide) (.inl m_943) rfl 25 rfl ?_
          rw [hB2.2.1]
          refine z_iconst F dX10_any_25 1 (by decide) 26 rfl ?_
          refine z_iadd F dX10_any_26 27 rfl ?_
          rw [nI_1]
          refine z_putI F zc9 dX10_any_27 rfl 13 (by decide) (by decide) (.inl m_943) rfl rfl z_pI 30 rfl ?_
          refine z_aload_n F dX10_any_30 0 rfl 31 rfl ?_
          refine z_callVv F dX10_any_31 m_1133 iX10_all jX10_all rfl zc9 rfl (hS (q + 1) (L ++ A) _ (by omega) (by rw [List.length_append]; omega) hB2.adv (hLd2.u0 (by decide)) (by rw [u2_k (by decide), hb2, hok]; rfl)) rfl (by omega) (Nat.le_of_ble_eq_true rfl) 34 rfl (fun s31 c31 => ?_)
          obtain ⟨t, ht, e12⟩ := c31.l
          refine z_aload_n F dX10_any_34 0 rfl 35 rfl ?_
          refine z_bipush F dX10_any_35 124 (by decide) 37 rfl ?_
          refine z_iconst F dX10_any_37 0 (by decide) 38 rfl ?_
          refine z_callVu F dX10_any_38 m_1161 iX10_lays jX10_lays rfl zc9 rfl (kX10_lays s31 ht e12 _ _) rfl (by omega) (Nat.le_of_ble_eq_true rfl) 41 rfl ?_
          refine z_goto F dX10_any_41 4 (by decide) ?_
          have hgd2 : q + 1 ≤ ((levP (tbR r) (untP (tbR r) w h) 4) (q + 1)).1 := hgd.1
          refine (ih ((levP (tbR r) (untP (tbR r) w h) 4) (q + 1)).1 (A ++ (((levP (tbR r) (untP (tbR r) w h) 4) (q + 1)).2.1 ++ [(tbR r q, 0)])) ((levP (tbR r) (untP (tbR r) w h) 4) (q + 1)).2.2 _ (by omega) hgd.2.1 (lay_G (((hG.u0 (by decide)).tr c31.1))) (lay_B c31.2.1 e12) (by rw [lay_15]; exact c31.2.2.1) (fun okS => ?_) (fun noS => ?_))
          · have hl := c31.2.2.2 okS
            obtain ⟨g4, g5, -⟩ := hgd.2.2 okS
            have hg1 := hgd.2.1
            have hlen : (L ++ A ++ ((levP (tbR r) (untP (tbR r) w h) 4) (q + 1)).2.1).length < 60 := by rw [List.length_append, List.length_append]; omega
            have eq2 : t = (L ++ A ++ ((levP (tbR r) (untP (tbR r) w h) 4) (q + 1)).2.1).length := len_q hl (by omega) ht e12
            refine ⟨?_, ?_, by rw [← hR]; exact (lop_ok hsg okS (by decide)).symm⟩
            · rw [eq2]
              have hll := lay_L hl hlen (x := 124) (v := 0)
              have ea : L ++ (A ++ (((levP (tbR r) (untP (tbR r) w h) 4) (q + 1)).2.1 ++ [(tbR r q, 0)])) = L ++ A ++ ((levP (tbR r) (untP (tbR r) w h) 4) (q + 1)).2.1 ++ [(124, 0)] := by rw [hbq]; simp only [List.append_assoc]
              rw [ea]; exact hll
            · rw [List.length_append, List.length_append]
              show i + (A.length + (((levP (tbR r) (untP (tbR r) w h) 4) (q + 1)).2.1.length + 1)) ≤ _
              omega
          · rw [lop_bad hsg noS] at hR
            rw [← hR]; exact ⟨rfl, Bool.false_ne_true⟩
  refine z_aload_n F dX10_any_0 0 rfl 1 rfl ?_
  refine z_callVv F dX10_any_1 m_1133 iX10_all jX10_all rfl zc9 rfl (hS i L τ hi hL hB hLd h15) rfl (by omega) (Nat.le_of_ble_eq_true rfl) 4 rfl (fun s1 c1 => ?_)
  have hgd := lev_gd hT (unt_gd hT hw h) 4 (by decide) i hi
  exact loop4 61 ((levP (tbR r) (untP (tbR r) w h) 4) i).1 ((levP (tbR r) (untP (tbR r) w h) 4) i).2.1 ((levP (tbR r) (untP (tbR r) w h) 4) i).2.2 s1 (by omega) hgd.2.1 c1.1 c1.2.1 c1.2.2.1 (fun ok => ⟨c1.2.2.2 ok, (hgd.2.2 ok).1, (lev_ok (by decide) ok).symm⟩) (fun no => ⟨by rw [lev_no no], by rw [lev_no no]; exact no⟩)
theorem kX10_unit {l : Launch} {E : z_E} {r : Rw} {w : Nat} (hx : VX r) (hw : w < 2) : ∀ h, h ≤ 5 → ∀ (i : Nat) (L : List (Int32 × Int32)) (τ : z_M) (_ : i ≤ tN r) (_ : L.length ≤ i) (_ : MdB τ r w (5 - (h)) i) (_ : MdL τ L) (_ : τ 0 15 = 0), z_C l E shM (2 + 7 * (h)) yX10_one cX10_one 3 none [.ref (z_ad E 0)] τ (z_Pv (MdP τ r w (5 - (h)) L (untP (tbR r) w (h) i))) := by
  intro h
  induction h with
  | zero => intro _; exact kX10_one hx hw (kX10_opens0 hx hw)
  | succ h ih =>
    intro hh
    have hU := ih (by omega)
    exact kX10_one hx hw (kX10_opensS hx hw (by omega) hU (kX10_lev5 hx hw (by omega) (kX10_lev4 hx hw (by omega) (kX10_lev3 hx hw (by omega) (kX10_lev2 hx hw (by omega) (kX10_lev1 hx hw (by omega) hU))))))
theorem kX10_top {l : Launch} {E : z_E} {r : Rw} {w : Nat} (hx : VX r) (hw : w < 2) : ∀ (i : Nat) (L : List (Int32 × Int32)) (τ : z_M) (_ : i ≤ tN r) (_ : L.length ≤ i) (_ : MdB τ r w (5 - (5)) i) (_ : MdL τ L) (_ : τ 0 15 = 0), z_C l E shM (2 + 7 * (5) + 5) yX10_any cX10_any 1 none [.ref (z_ad E 0)] τ (z_Pv (MdP τ r w (5 - (5)) L (levP (tbR r) (untP (tbR r) w (5)) 5 i))) :=
  kX10_lev5 hx hw (by decide) (kX10_lev4 hx hw (by decide) (kX10_lev3 hx hw (by decide) (kX10_lev2 hx hw (by decide) (kX10_lev1 hx hw (by decide) (kX10_unit hx hw 5 (by decide))))))
