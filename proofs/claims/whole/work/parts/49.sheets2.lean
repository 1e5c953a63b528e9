/-! the reference: sheets -/
theorem le_m1g {x y : Int32} {n : Nat} (h : y = nI n) (hn : n < 2 ^ 30) : x ≤ y - 1 ↔ x < y := by
  subst h
  rw [Int32.le_iff_toInt_le, Int32.lt_iff_toInt_lt, show (1 : Int32) = nI 1 from rfl, pk_sub_toInt hn (by decide), nI_toInt (by omega)]
  omega
def zrF (g : Nat → Int32) (a k : Nat) (c : Nat) : Int32 := if a ≤ c ∧ c < a + k then 0 else g c
theorem zr_0 {m : z_M} {a : Nat} : z_up m 7 (zrF (m 7) a 0) = m := by
  have e : zrF (m 7) a 0 = m 7 := by funext c; unfold zrF; rw [if_neg (by omega)]
  rw [e, up_id]
theorem zr_s {m : z_M} {g : Nat → Int32} {a k : Nat} : z_u2 (z_up m 7 (zrF g a k)) 7 (a + k) 0 = z_up m 7 (zrF g a (k + 1)) := by
  unfold z_u2
  rw [up_same, up_up]
  congr 1
  funext c
  unfold zrF
  rw [upd_at]
  (repeat' split) <;> first | rfl | (exfalso; omega)
def ntS (μ : z_M) (s : Int32) : Int32 := if 0 ≤ s ∧ s ≤ 3 then (if μ 5 s.toNatClampNeg = 0 then LO 2 else 0) else LO 1
theorem LO_ne {k : Nat} (h1 : 1 ≤ k) (h6 : k ≤ 6) : ¬ LO k = 0 := by
  rcases (show k = 1 ∨ k = 2 ∨ k = 3 ∨ k = 4 ∨ k = 5 ∨ k = 6 by omega) with rfl | rfl | rfl | rfl | rfl | rfl <;> decide
theorem s_lt4 {s : Int32} : (0 ≤ s ∧ s ≤ 3) ↔ (0 ≤ s ∧ s < 4) := by
  simp only [Int32.lt_iff_toInt_lt, Int32.le_iff_toInt_le, Int32.reduceToInt]; omega
theorem nt_er {μ : z_M} {s : Int32} (h : ¬ ntS μ s = 0) : ∃ k, 1 ≤ k ∧ k ≤ 6 ∧ ntS μ s = LO k ∧ ∀ B : Op, (if 0 ≤ s ∧ s < 4 then (if μ 5 s.toNatClampNeg = 0 then er μ 2 else B) else er μ 1) = er μ k := by
  unfold ntS at h ⊢
  by_cases h1 : 0 ≤ s ∧ s ≤ 3
  · rw [if_pos h1] at h ⊢
    by_cases h2 : μ 5 s.toNatClampNeg = 0
    · rw [if_pos h2]; exact ⟨2, by decide, by decide, rfl, fun B => by rw [if_pos (s_lt4.mp h1), if_pos h2]⟩
    · rw [if_neg h2] at h; exact absurd rfl h
  · rw [if_neg h1]; exact ⟨1, by decide, by decide, rfl, fun B => by rw [if_neg (fun z => h1 (s_lt4.mpr z))]⟩
theorem nt_ok {μ : z_M} {s : Int32} (h : ntS μ s = 0) : ∃ q, q < 4 ∧ s = nI q ∧ (0 ≤ s ∧ s < 4) ∧ ¬ μ 5 q = 0 := by
  unfold ntS at h
  by_cases h1 : 0 ≤ s ∧ s ≤ 3
  · rw [if_pos h1] at h
    obtain ⟨q, hq, rfl⟩ : ∃ q, q < 4 ∧ s = nI q := isP_of (n := 4) (s_lt4.mp h1) (by decide)
    rw [nI_clamp (by omega)] at h
    refine ⟨q, hq, rfl, s_lt4.mp h1, fun z => ?_⟩
    rw [if_pos z] at h; exact LO_ne (by decide) (by decide) h
  · rw [if_neg h1] at h; exact absurd h (LO_ne (by decide) (by decide))
def nmvS (μ : z_M) (s i o j n : Int32) : Int32 := if (0 ≤ s ∧ s ≤ 3) ∧ 0 ≤ o ∧ o ≤ 3 then (if μ 5 s.toNatClampNeg = 0 ∨ μ 5 o.toNatClampNeg = 0 then LO 2 else if ¬ μ 5 s.toNatClampNeg = μ 5 o.toNatClampNeg then LO 5 else if 0 ≤ n ∧ 0 ≤ i ∧ 0 ≤ j ∧ n ≤ μ 6 s.toNatClampNeg - i ∧ n ≤ μ 6 o.toNatClampNeg - j then 0 else LO 1) else LO 1
theorem st_iff {c i n : Int32} {q : Nat} (hc : c = nI q) (hq : q ≤ 24) (hi : 0 ≤ i) (hn : 0 ≤ n) : n ≤ c - i ↔ stR c i n := by
  subst hc
  obtain ⟨i, hi2, rfl⟩ := nI_of (i_nlt.mpr hi)
  obtain ⟨n, hn2, rfl⟩ := nI_of (i_nlt.mpr hn)
  have e : (nI q - nI i).toInt = (q : Int) - i := by
    rw [Int32.toInt_sub, nI_toInt (by omega), nI_toInt hi2]
    refine Int.bmod_eq_of_le ?_ ?_ <;> omega
  unfold stR
  simp only [Int32.le_iff_toInt_le, e, nI_toInt hi2, nI_toInt hn2, nI_toInt (show q < 2 ^ 31 by omega), Int32.reduceToInt]
  omega
/-- the copy, n numbers of which k are done -/
def mvF (f : Nat → Int32) (S D n k : Nat) (up : Bool) (c : Nat) : Int32 := if D ≤ c ∧ c < D + n ∧ (if up = true then n - k ≤ c - D else c - D < k) then f (S + (c - D)) else f c
theorem mv_0 {f : Nat → Int32} {S D n : Nat} {up : Bool} : mvF f S D n 0 up = f := by
  funext c; unfold mvF
  rw [if_neg]
  intro z
  obtain ⟨z1, z2, z3⟩ := z
  cases up <;> simp at z3 <;> omega
theorem mv_n {f : Nat → Int32} {S D n : Nat} {up : Bool} : mvF f S D n n up = va_cpy f f S D n := by
  funext c; unfold mvF va_cpy
  by_cases z : D ≤ c ∧ c < D + n
  · rw [if_pos z, if_pos ⟨z.1, z.2, by cases up <;> simp; omega⟩]
  · rw [if_neg z, if_neg (fun y => z ⟨y.1, y.2.1⟩)]
theorem mv_s {f : Nat → Int32} {S D n k e : Nat} {up : Bool} (hk : k < n) (he : e = if up = true then n - 1 - k else k) : upd (mvF f S D n k up) (D + e) (f (S + e)) = mvF f S D n (k + 1) up := by
  funext c; unfold mvF
  rw [upd_at]
  by_cases z : c = D + e
  · subst z
    have e2 : D + e - D = e := by omega
    rw [if_pos rfl, e2, if_pos]
    refine ⟨by omega, ?_, ?_⟩
    · cases up <;> simp at he <;> omega
    · cases up <;> simp at he ⊢ <;> omega
  · rw [if_neg z]
    by_cases y : D ≤ c ∧ c < D + n ∧ (if up = true then n - k ≤ c - D else c - D < k)
    · rw [if_pos y, if_pos]
      obtain ⟨y1, y2, y3⟩ := y
      refine ⟨y1, y2, ?_⟩
      cases up <;> simp at y3 ⊢ <;> omega
    · rw [if_neg y, if_neg]
      intro x
      obtain ⟨x1, x2, x3⟩ := x
      refine y ⟨x1, x2, ?_⟩
      cases up <;> simp at x3 he ⊢ <;> omega
theorem mv_r {f : Nat → Int32} {s o i j n k e : Nat} {up : Bool} (hk : k < n) (hi : i + n ≤ 24) (hj : j + n ≤ 24) (hup : up = decide (i < j)) (he : e = if up = true then n - 1 - k else k) : mvF f (24 * s + i) (24 * o + j) n k up (24 * s + i + e) = f (24 * s + i + e) := by
  unfold mvF
  rw [if_neg]
  intro z
  obtain ⟨z1, z2, z3⟩ := z
  have hso : s = o := by
    cases up <;> simp at he <;> omega
  subst hso
  cases up
  · simp at he z3 hup; omega
  · simp at he z3
    have := of_decide_eq_true hup.symm
    omega
theorem s2_lt {r : Rw} (h8 : nP r ≤ 8) {v : Int32} : (0 ≤ v ∧ v ≤ nI (2 ^ nP r - 1)) ↔ (0 ≤ v ∧ v < nI (2 ^ nP r)) := by
  have p256 : 2 ^ nP r ≤ 2 ^ 8 := Nat.pow_le_pow_right (by decide) h8
  have p1 : 1 ≤ 2 ^ nP r := Nat.pow_pos (by decide)
  refine ⟨fun z => ⟨z.1, ?_⟩, fun z => ⟨z.1, ?_⟩⟩
  · obtain ⟨j, hj, rfl⟩ := nI_of (i_nlt.mpr z.1)
    have := le_nI z.2 hj (by omega)
    exact nI_lt (by omega) (by omega)
  · obtain ⟨j, hj, rfl⟩ := nI_of (i_nlt.mpr z.1)
    have := (nI_ltI hj (by omega)).mp z.2
    exact nI_le (by omega) (by omega)
theorem sen_2 {r : Rw} {g : Nat → Int32} : ∀ k, senR r g k 2 = r 2
  | 0 => rfl
  | k + 1 => by show pU _ _ _ _ 2 = _; rw [pU_lo (by decide)]; exact sen_2 k
set_option maxHeartbeats 400000 in
set_option maxRecDepth 10000 in
theorem kX10_body {l : Launch} {E : z_E} (σ : z_M) {τ0 : z_M} (hR : Rel τ0 σ) (i : Int32)  : z_C l E shM 1 yX10_body cX10_body 2 (some FieldType.int) [.ref (z_ad E 0), .int i] σ (z_Pi (fun rv μ' => rv = (aBody σ i).1 ∧ MO (aBody σ i).2 μ')) := by
  refine z_intro iX10_body (Nat.le_of_ble_eq_true rfl) (fun K F => ?_)
  have hn : σ 1 2 = nI (nP (σ 1)) := hR.2.1.1.1
  have h8 : nP (σ 1) ≤ 8 := hR.n8
  have hN : σ 1 2 = nI (nP (σ 1)) ∧ nP (σ 1) ≤ 8 := ⟨hn, h8⟩
  obtain ⟨-, q, hq, e18, -⟩ := hR.2.2.2.2.2.2
  refine z_iload_n F dX10_body_0 1 rfl 1 rfl ?_
  refine z_iconst F dX10_body_1 0 (by decide) 2 rfl ?_
  refine z_aload_n F dX10_body_2 0 rfl 3 rfl ?_
  refine z_getI F zc9 dX10_body_3 rfl 18 (by decide) (by decide) (.inl m_948) rfl 6 rfl ?_
  refine z_iconst F dX10_body_6 1 (by decide) 7 rfl ?_
  rw [e18]
  refine z_isub F dX10_body_7 8 rfl ?_
  refine z_callSp F dX10_body_8 m_998 iX10_in m_999 rfl (kX10_in σ _ _ _) rfl (by decide) (Nat.le_of_ble_eq_true rfl) 11 rfl ?_
  refine z_if_eq F dX10_body_11 23 (by decide) 14 rfl (fun h11 => ?_) (fun h11 => ?_)
  · skip
    have h11 := bI0.mp h11
    refine z_aload_n F dX10_body_23 0 rfl 24 rfl ?_
    refine z_ldc F dX10_body_24 m_1091 26 rfl ?_
    rw [lo2]
    refine z_callVi F dX10_body_26 m_1002 iX10_error jX10_error rfl zc9 rfl (kX10_error σ (k := 2) (by decide) (by decide)) rfl (by decide) (Nat.le_of_ble_eq_true rfl) 29 rfl (fun r26 s26 c26 => ?_)
    refine z_ri F dX10_body_29 ?_
    obtain ⟨rfl, rfl⟩ := c26
    exact finM (by
      unfold aBody
      rw [if_neg (fun z => h11 ⟨z.1, (le_m1g rfl (by omega)).mpr (e18 ▸ z.2)⟩)]) MO.rf
  · skip
    have h11 := bI1.mp h11
    have h11 : 0 ≤ i ∧ i < nI q := ⟨h11.1, (le_m1g rfl (by omega)).mp h11.2⟩
    obtain ⟨j, hj, rfl⟩ := isP_of h11 (by omega)
    refine z_aload_n F dX10_body_14 0 rfl 15 rfl ?_
    refine z_getR F zc9 dX10_body_15 rfl 17 (by decide) (by decide) (.inl m_947) rfl (by decide) 18 rfl ?_
    refine z_iload_n F dX10_body_18 1 rfl 19 rfl ?_
    refine z_iald F dX10_body_19 rfl (vp_in_nI (by omega) (by decide)) 20 rfl ?_
    rw [nI_clamp (by omega)]
    refine z_goto F dX10_body_20 29 (by decide) ?_
    refine z_ri F dX10_body_29 ?_
    refine finM (m := σ) ?_ MO.rf
    unfold aBody
    rw [if_pos (by rw [e18]; exact h11), nI_clamp (by omega)]
set_option maxHeartbeats 1000000 in
set_option maxRecDepth 10000 in
theorem kX10_sheet {l : Launch} {E : z_E} (σ : z_M) {τ0 : z_M} (hR : Rel τ0 σ) (s : Int32) (b : Int32) (n : Int32)  : z_C l E shM 2 yX10_sheet cX10_sheet 5 (some FieldType.int) [.ref (z_ad E 0), .int s, .int b, .int n] σ (z_Pi (fun rv μ' => rv = (aSheet σ s b n).1 ∧ MO (aSheet σ s b n).2 μ')) := by
  refine z_intro iX10_sheet (Nat.le_of_ble_eq_true rfl) (fun K F => ?_)
  have hn : σ 1 2 = nI (nP (σ 1)) := hR.2.1.1.1
  have h8 : nP (σ 1) ≤ 8 := hR.n8
  have hN : σ 1 2 = nI (nP (σ 1)) ∧ nP (σ 1) ≤ 8 := ⟨hn, h8⟩
  refine z_iload_n F dX10_sheet_0 1 rfl 1 rfl ?_
  refine z_callSp F dX10_sheet_1 m_1273 iX10_isSheet m_1274 rfl (kX10_isSheet σ _) rfl (by decide) (Nat.le_of_ble_eq_true rfl) 4 rfl ?_
  refine z_if_eq F dX10_sheet_4 29 (by decide) 7 rfl (fun h4 => ?_) (fun h4 => ?_)
  · skip
    have h4 := bI0.mp h4
    refine z_aload_n F dX10_sheet_29 0 rfl 30 rfl ?_
    refine z_ldc F dX10_sheet_30 m_1001 32 rfl ?_
    rw [lo1]
    refine z_callVi F dX10_sheet_32 m_1002 iX10_error jX10_error rfl zc9 rfl (kX10_error σ (k := 1) (by decide) (by decide)) rfl (by decide) (Nat.le_of_ble_eq_true rfl) 35 rfl (fun r32 s32 c32 => ?_)
    refine z_ri F dX10_sheet_35 ?_
    obtain ⟨rfl, rfl⟩ := c32
    exact finM (by
      unfold aSheet
      (repeat' split) <;> first | rfl | contradiction | (exfalso; simp only [Int32.lt_iff_toInt_lt, Int32.le_iff_toInt_le, ← Int32.toInt_inj, Int32.reduceToInt] at *; omega)) MO.rf
  · skip
    have h4 := bI1.mp h4
    refine z_iload_n F dX10_sheet_7 2 rfl 8 rfl ?_
    refine z_if_eq F dX10_sheet_8 36 (by decide) 11 rfl (fun h8 => ?_) (fun h8 => ?_)
    · skip
      have hb : b = 0 ∨ b = 8 ∨ b = 16 ∨ b = 32 := Or.inl h8
      refine z_iload_n F dX10_sheet_36 2 rfl 37 rfl ?_
      refine z_if_le F dX10_sheet_37 51 (by decide) 40 rfl (fun h37 => ?_) (fun h37 => ?_)
      · skip
        refine z_iload_n F dX10_sheet_51 2 rfl 52 rfl ?_
        refine z_if_le F dX10_sheet_52 68 (by decide) 55 rfl (fun h52 => ?_) (fun h52 => ?_)
        · skip
          have g1 : ¬ (¬ b = 0 ∧ n < 0) := fun z => by simp only [Int32.lt_iff_toInt_lt, Int32.le_iff_toInt_le, ← Int32.toInt_inj, Int32.reduceToInt] at *; omega
          have g2 : ¬ (¬ b = 0 ∧ 24 < n) := fun z => by simp only [Int32.lt_iff_toInt_lt, Int32.le_iff_toInt_le, ← Int32.toInt_inj, Int32.reduceToInt] at *; omega
          obtain ⟨q, hq4, rfl⟩ : ∃ q, q < 4 ∧ s = nI q := isP_of (n := 4) (s_lt4.mp h4) (by decide)
          have q31 : q < 2 ^ 31 := by omega
          have loop93 : ∀ (f : Nat) (n2 : Int32) (k : Nat) (_ : n2 = if b = 0 then 0 else n) (_ : 24 < k + f) (_ : k ≤ 24), z_X l K E shM 2 5 (z_Pi (fun rv μ' => rv = (aSheet σ (nI q) b n).1 ∧ MO (aSheet σ (nI q) b n).2 μ')) 93 [(0, .ref (z_ad E 0)), (1, .int (nI q)), (2, .int b), (3, .int n), (4, .int (nI k))] [] (z_up (z_u2 (z_u2 σ 5 q b) 6 q n2) 7 (zrF (σ 7) (24 * q) k)) := by
            intro f
            induction f with
            | zero =>
              intro n2 k hn2 hf hk
              omega
            | succ f ih =>
              intro n2 k hn2 hf hk
              refine z_iload F dX10_sheet_93 4 rfl 95 rfl ?_
              refine z_bipush F dX10_sheet_95 24 (by decide) 97 rfl ?_
              refine z_icmp_ge F dX10_sheet_97 119 (by decide) 100 rfl (fun h97 => ?_) (fun h97 => ?_)
              · skip
                refine z_iconst F dX10_sheet_119 1 (by decide) 120 rfl ?_
                refine z_ri F dX10_sheet_120 ?_
                have hke : k = 24 := by have := le_nI (a := 24) h97 (by decide) (by omega); omega
                subst hke
                refine finM (m := shN σ q b n2) ?_ MO.rf
                unfold aSheet
                rw [if_pos ⟨s_lt4.mp h4, hb⟩, if_neg g1, if_neg g2, nI_clamp q31, hn2]
              · skip
                have hk24 : k < 24 := nle_nI (b := k) (a := 24) h97 (by decide) (by omega)
                refine z_aload_n F dX10_sheet_100 0 rfl 101 rfl ?_
                refine z_getR F zc9 dX10_sheet_101 rfl 7 (by decide) (by decide) (.inl m_937) rfl (by decide) 104 rfl ?_
                refine z_bipush F dX10_sheet_104 24 (by decide) 106 rfl ?_
                refine z_iload_n F dX10_sheet_106 1 rfl 107 rfl ?_
                refine z_imul F dX10_sheet_107 108 rfl ?_
                refine z_iload F dX10_sheet_108 4 rfl 110 rfl ?_
                refine z_iadd F dX10_sheet_110 111 rfl ?_
                rw [ix24]
                refine z_iconst F dX10_sheet_111 0 (by decide) 112 rfl ?_
                refine z_iast F dX10_sheet_112 rfl (vp_in_nI (by omega) (by decide)) 113 rfl ?_
                rw [nI_clamp (by omega), zr_s]
                refine z_iinc F dX10_sheet_113 4 rfl 1 (by decide) [(0, _), (1, _), (2, _), (3, _), (4, _)] rfl (by decide) 116 rfl ?_
                refine z_goto F dX10_sheet_116 93 (by decide) ?_
                rw [nI_1]
                exact ih n2 (k + 1) hn2 (by omega) (by omega)
          refine z_aload_n F dX10_sheet_68 0 rfl 69 rfl ?_
          refine z_getR F zc9 dX10_sheet_69 rfl 5 (by decide) (by decide) (.inl m_935) rfl (by decide) 72 rfl ?_
          refine z_iload_n F dX10_sheet_72 1 rfl 73 rfl ?_
          refine z_iload_n F dX10_sheet_73 2 rfl 74 rfl ?_
          refine z_iast F dX10_sheet_74 rfl (vp_in_nI (by omega) (by decide)) 75 rfl ?_
          rw [nI_clamp q31]
          refine z_aload_n F dX10_sheet_75 0 rfl 76 rfl ?_
          refine z_getR F zc9 dX10_sheet_76 rfl 6 (by decide) (by decide) (.inl m_936) rfl (by decide) 79 rfl ?_
          refine z_iload_n F dX10_sheet_79 1 rfl 80 rfl ?_
          refine z_iload_n F dX10_sheet_80 2 rfl 81 rfl ?_
          refine z_if_ne F dX10_sheet_81 88 (by decide) 84 rfl (fun h81 => ?_) (fun h81 => ?_)
          · skip
            refine z_iload_n F dX10_sheet_88 3 rfl 89 rfl ?_
            refine z_iast F dX10_sheet_89 rfl (vp_in_nI (by omega) (by decide)) 90 rfl ?_
            rw [nI_clamp q31]
            refine z_iconst F dX10_sheet_90 0 (by decide) 91 rfl ?_
            refine z_istore F dX10_sheet_91 [(0, _), (1, _), (2, _), (3, _), (4, _)] rfl (by decide) 93 rfl ?_
            have L := loop93 25 n 0 ((if_neg h81).symm) (by omega) (by omega)
            have ez : z_up (z_u2 (z_u2 σ 5 q b) 6 q n) 7 (zrF (σ 7) (24 * q) 0) = z_u2 (z_u2 σ 5 q b) 6 q n := zr_0
            rw [ez] at L
            exact L
          · skip
            refine z_iconst F dX10_sheet_84 0 (by decide) 85 rfl ?_
            refine z_goto F dX10_sheet_85 89 (by decide) ?_
            refine z_iast F dX10_sheet_89 rfl (vp_in_nI (by omega) (by decide)) 90 rfl ?_
            rw [nI_clamp q31]
            refine z_iconst F dX10_sheet_90 0 (by decide) 91 rfl ?_
            refine z_istore F dX10_sheet_91 [(0, _), (1, _), (2, _), (3, _), (4, _)] rfl (by decide) 93 rfl ?_
            have L := loop93 25 0 0 ((if_pos h81).symm) (by omega) (by omega)
            have ez : z_up (z_u2 (z_u2 σ 5 q b) 6 q 0) 7 (zrF (σ 7) (24 * q) 0) = z_u2 (z_u2 σ 5 q b) 6 q 0 := zr_0
            rw [ez] at L
            exact L
        · skip
          refine z_iload_n F dX10_sheet_55 3 rfl 56 rfl ?_
          refine z_bipush F dX10_sheet_56 24 (by decide) 58 rfl ?_
          refine z_icmp_le F dX10_sheet_58 68 (by decide) 61 rfl (fun h58 => ?_) (fun h58 => ?_)
          · skip
            have g1 : ¬ (¬ b = 0 ∧ n < 0) := fun z => by simp only [Int32.lt_iff_toInt_lt, Int32.le_iff_toInt_le, ← Int32.toInt_inj, Int32.reduceToInt] at *; omega
            have g2 : ¬ (¬ b = 0 ∧ 24 < n) := fun z => by simp only [Int32.lt_iff_toInt_lt, Int32.le_iff_toInt_le, ← Int32.toInt_inj, Int32.reduceToInt] at *; omega
            obtain ⟨q, hq4, rfl⟩ : ∃ q, q < 4 ∧ s = nI q := isP_of (n := 4) (s_lt4.mp h4) (by decide)
            have q31 : q < 2 ^ 31 := by omega
            have loop93 : ∀ (f : Nat) (n2 : Int32) (k : Nat) (_ : n2 = if b = 0 then 0 else n) (_ : 24 < k + f) (_ : k ≤ 24), z_X l K E shM 2 5 (z_Pi (fun rv μ' => rv = (aSheet σ (nI q) b n).1 ∧ MO (aSheet σ (nI q) b n).2 μ')) 93 [(0, .ref (z_ad E 0)), (1, .int (nI q)), (2, .int b), (3, .int n), (4, .int (nI k))] [] (z_up (z_u2 (z_u2 σ 5 q b) 6 q n2) 7 (zrF (σ 7) (24 * q) k)) := by
              intro f
              induction f with
              | zero =>
                intro n2 k hn2 hf hk
                omega
              | succ f ih =>
                intro n2 k hn2 hf hk
                refine z_iload F dX10_sheet_93 4 rfl 95 rfl ?_
                refine z_bipush F dX10_sheet_95 24 (by decide) 97 rfl ?_
                refine z_icmp_ge F dX10_sheet_97 119 (by decide) 100 rfl (fun h97 => ?_) (fun h97 => ?_)
                · skip
                  refine z_iconst F dX10_sheet_119 1 (by decide) 120 rfl ?_
                  refine z_ri F dX10_sheet_120 ?_
                  have hke : k = 24 := by have := le_nI (a := 24) h97 (by decide) (by omega); omega
                  subst hke
                  refine finM (m := shN σ q b n2) ?_ MO.rf
                  unfold aSheet
                  rw [if_pos ⟨s_lt4.mp h4, hb⟩, if_neg g1, if_neg g2, nI_clamp q31, hn2]
                · skip
                  have hk24 : k < 24 := nle_nI (b := k) (a := 24) h97 (by decide) (by omega)
                  refine z_aload_n F dX10_sheet_100 0 rfl 101 rfl ?_
                  refine z_getR F zc9 dX10_sheet_101 rfl 7 (by decide) (by decide) (.inl m_937) rfl (by decide) 104 rfl ?_
                  refine z_bipush F dX10_sheet_104 24 (by decide) 106 rfl ?_
                  refine z_iload_n F dX10_sheet_106 1 rfl 107 rfl ?_
                  refine z_imul F dX10_sheet_107 108 rfl ?_
                  refine z_iload F dX10_sheet_108 4 rfl 110 rfl ?_
                  refine z_iadd F dX10_sheet_110 111 rfl ?_
                  rw [ix24]
                  refine z_iconst F dX10_sheet_111 0 (by decide) 112 rfl ?_
                  refine z_iast F dX10_sheet_112 rfl (vp_in_nI (by omega) (by decide)) 113 rfl ?_
                  rw [nI_clamp (by omega), zr_s]
                  refine z_iinc F dX10_sheet_113 4 rfl 1 (by decide) [(0, _), (1, _), (2, _), (3, _), (4, _)] rfl (by decide) 116 rfl ?_
                  refine z_goto F dX10_sheet_116 93 (by decide) ?_
                  rw [nI_1]
                  exact ih n2 (k + 1) hn2 (by omega) (by omega)
            refine z_aload_n F dX10_sheet_68 0 rfl 69 rfl ?_
            refine z_getR F zc9 dX10_sheet_69 rfl 5 (by decide) (by decide) (.inl m_935) rfl (by decide) 72 rfl ?_
            refine z_iload_n F dX10_sheet_72 1 rfl 73 rfl ?_
            refine z_iload_n F dX10_sheet_73 2 rfl 74 rfl ?_
            refine z_iast F dX10_sheet_74 rfl (vp_in_nI (by omega) (by decide)) 75 rfl ?_
            rw [nI_clamp q31]
            refine z_aload_n F dX10_sheet_75 0 rfl 76 rfl ?_
            refine z_getR F zc9 dX10_sheet_76 rfl 6 (by decide) (by decide) (.inl m_936) rfl (by decide) 79 rfl ?_
            refine z_iload_n F dX10_sheet_79 1 rfl 80 rfl ?_
            refine z_iload_n F dX10_sheet_80 2 rfl 81 rfl ?_
            refine z_if_ne F dX10_sheet_81 88 (by decide) 84 rfl (fun h81 => ?_) (fun h81 => ?_)
            · skip
              refine z_iload_n F dX10_sheet_88 3 rfl 89 rfl ?_
              refine z_iast F dX10_sheet_89 rfl (vp_in_nI (by omega) (by decide)) 90 rfl ?_
              rw [nI_clamp q31]
              refine z_iconst F dX10_sheet_90 0 (by decide) 91 rfl ?_
              refine z_istore F dX10_sheet_91 [(0, _), (1, _), (2, _), (3, _), (4, _)] rfl (by decide) 93 rfl ?_
              have L := loop93 25 n 0 ((if_neg h81).symm) (by omega) (by omega)
              have ez : z_up (z_u2 (z_u2 σ 5 q b) 6 q n) 7 (zrF (σ 7) (24 * q) 0) = z_u2 (z_u2 σ 5 q b) 6 q n := zr_0
              rw [ez] at L
              exact L
            · skip
              refine z_iconst F dX10_sheet_84 0 (by decide) 85 rfl ?_
              refine z_goto F dX10_sheet_85 89 (by decide) ?_
              refine z_iast F dX10_sheet_89 rfl (vp_in_nI (by omega) (by decide)) 90 rfl ?_
              rw [nI_clamp q31]
              refine z_iconst F dX10_sheet_90 0 (by decide) 91 rfl ?_
              refine z_istore F dX10_sheet_91 [(0, _), (1, _), (2, _), (3, _), (4, _)] rfl (by decide) 93 rfl ?_
              have L := loop93 25 0 0 ((if_pos h81).symm) (by omega) (by omega)
              have ez : z_up (z_u2 (z_u2 σ 5 q b) 6 q 0) 7 (zrF (σ 7) (24 * q) 0) = z_u2 (z_u2 σ 5 q b) 6 q 0 := zr_0
              rw [ez] at L
              exact L
          · skip
            refine z_aload_n F dX10_sheet_61 0 rfl 62 rfl ?_
            refine z_ldc F dX10_sheet_62 m_1001 64 rfl ?_
            rw [lo1]
            refine z_callVi F dX10_sheet_64 m_1002 iX10_error jX10_error rfl zc9 rfl (kX10_error σ (k := 1) (by decide) (by decide)) rfl (by decide) (Nat.le_of_ble_eq_true rfl) 67 rfl (fun r64 s64 c64 => ?_)
            refine z_ri F dX10_sheet_67 ?_
            obtain ⟨rfl, rfl⟩ := c64
            exact finM (by
              unfold aSheet
              (repeat' split) <;> first | rfl | contradiction | (exfalso; simp only [Int32.lt_iff_toInt_lt, Int32.le_iff_toInt_le, ← Int32.toInt_inj, Int32.reduceToInt] at *; omega)) MO.rf
      · skip
        refine z_iload_n F dX10_sheet_40 3 rfl 41 rfl ?_
        refine z_if_ge F dX10_sheet_41 51 (by decide) 44 rfl (fun h41 => ?_) (fun h41 => ?_)
        · skip
          refine z_iload_n F dX10_sheet_51 2 rfl 52 rfl ?_
          refine z_if_le F dX10_sheet_52 68 (by decide) 55 rfl (fun h52 => ?_) (fun h52 => ?_)
          · skip
            have g1 : ¬ (¬ b = 0 ∧ n < 0) := fun z => by simp only [Int32.lt_iff_toInt_lt, Int32.le_iff_toInt_le, ← Int32.toInt_inj, Int32.reduceToInt] at *; omega
            have g2 : ¬ (¬ b = 0 ∧ 24 < n) := fun z => by simp only [Int32.lt_iff_toInt_lt, Int32.le_iff_toInt_le, ← Int32.toInt_inj, Int32.reduceToInt] at *; omega
            obtain ⟨q, hq4, rfl⟩ : ∃ q, q < 4 ∧ s = nI q := isP_of (n := 4) (s_lt4.mp h4) (by decide)
            have q31 : q < 2 ^ 31 := by omega
            have loop93 : ∀ (f : Nat) (n2 : Int32) (k : Nat) (_ : n2 = if b = 0 then 0 else n) (_ : 24 < k + f) (_ : k ≤ 24), z_X l K E shM 2 5 (z_Pi (fun rv μ' => rv = (aSheet σ (nI q) b n).1 ∧ MO (aSheet σ (nI q) b n).2 μ')) 93 [(0, .ref (z_ad E 0)), (1, .int (nI q)), (2, .int b), (3, .int n), (4, .int (nI k))] [] (z_up (z_u2 (z_u2 σ 5 q b) 6 q n2) 7 (zrF (σ 7) (24 * q) k)) := by
              intro f
              induction f with
              | zero =>
                intro n2 k hn2 hf hk
                omega
              | succ f ih =>
                intro n2 k hn2 hf hk
                refine z_iload F dX10_sheet_93 4 rfl 95 rfl ?_
                refine z_bipush F dX10_sheet_95 24 (by decide) 97 rfl ?_
                refine z_icmp_ge F dX10_sheet_97 119 (by decide) 100 rfl (fun h97 => ?_) (fun h97 => ?_)
                · skip
                  refine z_iconst F dX10_sheet_119 1 (by decide) 120 rfl ?_
                  refine z_ri F dX10_sheet_120 ?_
                  have hke : k = 24 := by have := le_nI (a := 24) h97 (by decide) (by omega); omega
                  subst hke
                  refine finM (m := shN σ q b n2) ?_ MO.rf
                  unfold aSheet
                  rw [if_pos ⟨s_lt4.mp h4, hb⟩, if_neg g1, if_neg g2, nI_clamp q31, hn2]
                · skip
                  have hk24 : k < 24 := nle_nI (b := k) (a := 24) h97 (by decide) (by omega)
                  refine z_aload_n F dX10_sheet_100 0 rfl 101 rfl ?_
                  refine z_getR F zc9 dX10_sheet_101 rfl 7 (by decide) (by decide) (.inl m_937) rfl (by decide) 104 rfl ?_
                  refine z_bipush F dX10_sheet_104 24 (by decide) 106 rfl ?_
                  refine z_iload_n F dX10_sheet_106 1 rfl 107 rfl ?_
                  refine z_imul F dX10_sheet_107 108 rfl ?_
                  refine z_iload F dX10_sheet_108 4 rfl 110 rfl ?_
                  refine z_iadd F dX10_sheet_110 111 rfl ?_
                  rw [ix24]
                  refine z_iconst F dX10_sheet_111 0 (by decide) 112 rfl ?_
                  refine z_iast F dX10_sheet_112 rfl (vp_in_nI (by omega) (by decide)) 113 rfl ?_
                  rw [nI_clamp (by omega), zr_s]
                  refine z_iinc F dX10_sheet_113 4 rfl 1 (by decide) [(0, _), (1, _), (2, _), (3, _), (4, _)] rfl (by decide) 116 rfl ?_
                  refine z_goto F dX10_sheet_116 93 (by decide) ?_
                  rw [nI_1]
                  exact ih n2 (k + 1) hn2 (by omega) (by omega)
            refine z_aload_n F dX10_sheet_68 0 rfl 69 rfl ?_
            refine z_getR F zc9 dX10_sheet_69 rfl 5 (by decide) (by decide) (.inl m_935) rfl (by decide) 72 rfl ?_
            refine z_iload_n F dX10_sheet_72 1 rfl 73 rfl ?_
            refine z_iload_n F dX10_sheet_73 2 rfl 74 rfl ?_
            refine z_iast F dX10_sheet_74 rfl (vp_in_nI (by omega) (by decide)) 75 rfl ?_
            rw [nI_clamp q31]
            refine z_aload_n F dX10_sheet_75 0 rfl 76 rfl ?_
            refine z_getR F zc9 dX10_sheet_76 rfl 6 (by decide) (by decide) (.inl m_936) rfl (by decide) 79 rfl ?_
            refine z_iload_n F dX10_sheet_79 1 rfl 80 rfl ?_
            refine z_iload_n F dX10_sheet_80 2 rfl 81 rfl ?_
            refine z_if_ne F dX10_sheet_81 88 (by decide) 84 rfl (fun h81 => ?_) (fun h81 => ?_)
            · skip
              refine z_iload_n F dX10_sheet_88 3 rfl 89 rfl ?_
              refine z_iast F dX10_sheet_89 rfl (vp_in_nI (by omega) (by decide)) 90 rfl ?_
              rw [nI_clamp q31]
              refine z_iconst F dX10_sheet_90 0 (by decide) 91 rfl ?_
              refine z_istore F dX10_sheet_91 [(0, _), (1, _), (2, _), (3, _), (4, _)] rfl (by decide) 93 rfl ?_
              have L := loop93 25 n 0 ((if_neg h81).symm) (by omega) (by omega)
              have ez : z_up (z_u2 (z_u2 σ 5 q b) 6 q n) 7 (zrF (σ 7) (24 * q) 0) = z_u2 (z_u2 σ 5 q b) 6 q n := zr_0
              rw [ez] at L
              exact L
            · skip
              refine z_iconst F dX10_sheet_84 0 (by decide) 85 rfl ?_
              refine z_goto F dX10_sheet_85 89 (by decide) ?_
              refine z_iast F dX10_sheet_89 rfl (vp_in_nI (by omega) (by decide)) 90 rfl ?_
              rw [nI_clamp q31]
              refine z_iconst F dX10_sheet_90 0 (by decide) 91 rfl ?_
              refine z_istore F dX10_sheet_91 [(0, _), (1, _), (2, _), (3, _), (4, _)] rfl (by decide) 93 rfl ?_
              have L := loop93 25 0 0 ((if_pos h81).symm) (by omega) (by omega)
              have ez : z_up (z_u2 (z_u2 σ 5 q b) 6 q 0) 7 (zrF (σ 7) (24 * q) 0) = z_u2 (z_u2 σ 5 q b) 6 q 0 := zr_0
              rw [ez] at L
              exact L
          · skip
            refine z_iload_n F dX10_sheet_55 3 rfl 56 rfl ?_
            refine z_bipush F dX10_sheet_56 24 (by decide) 58 rfl ?_
            refine z_icmp_le F dX10_sheet_58 68 (by decide) 61 rfl (fun h58 => ?_) (fun h58 => ?_)
            · skip
              have g1 : ¬ (¬ b = 0 ∧ n < 0) := fun z => by simp only [Int32.lt_iff_toInt_lt, Int32.le_iff_toInt_le, ← Int32.toInt_inj, Int32.reduceToInt] at *; omega
              have g2 : ¬ (¬ b = 0 ∧ 24 < n) := fun z => by simp only [Int32.lt_iff_toInt_lt, Int32.le_iff_toInt_le, ← Int32.toInt_inj, Int32.reduceToInt] at *; omega
              obtain ⟨q, hq4, rfl⟩ : ∃ q, q < 4 ∧ s = nI q := isP_of (n := 4) (s_lt4.mp h4) (by decide)
              have q31 : q < 2 ^ 31 := by omega
              have loop93 : ∀ (f : Nat) (n2 : Int32) (k : Nat) (_ : n2 = if b = 0 then 0 else n) (_ : 24 < k + f) (_ : k ≤ 24), z_X l K E shM 2 5 (z_Pi (fun rv μ' => rv = (aSheet σ (nI q) b n).1 ∧ MO (aSheet σ (nI q) b n).2 μ')) 93 [(0, .ref (z_ad E 0)), (1, .int (nI q)), (2, .int b), (3, .int n), (4, .int (nI k))] [] (z_up (z_u2 (z_u2 σ 5 q b) 6 q n2) 7 (zrF (σ 7) (24 * q) k)) := by
                intro f
                induction f with
                | zero =>
                  intro n2 k hn2 hf hk
                  omega
                | succ f ih =>
                  intro n2 k hn2 hf hk
                  refine z_iload F dX10_sheet_93 4 rfl 95 rfl ?_
                  refine z_bipush F dX10_sheet_95 24 (by decide) 97 rfl ?_
                  refine z_icmp_ge F dX10_sheet_97 119 (by decide) 100 rfl (fun h97 => ?_) (fun h97 => ?_)
                  · skip
                    refine z_iconst F dX10_sheet_119 1 (by decide) 120 rfl ?_
                    refine z_ri F dX10_sheet_120 ?_
                    have hke : k = 24 := by have := le_nI (a := 24) h97 (by decide) (by omega); omega
                    subst hke
                    refine finM (m := shN σ q b n2) ?_ MO.rf
                    unfold aSheet
                    rw [if_pos ⟨s_lt4.mp h4, hb⟩, if_neg g1, if_neg g2, nI_clamp q31, hn2]
                  · skip
                    have hk24 : k < 24 := nle_nI (b := k) (a := 24) h97 (by decide) (by omega)
                    refine z_aload_n F dX10_sheet_100 0 rfl 101 rfl ?_
                    refine z_getR F zc9 dX10_sheet_101 rfl 7 (by decide) (by decide) (.inl m_937) rfl (by decide) 104 rfl ?_
                    refine z_bipush F dX10_sheet_104 24 (by decide) 106 rfl ?_
                    refine z_iload_n F dX10_sheet_106 1 rfl 107 rfl ?_
                    refine z_imul F dX10_sheet_107 108 rfl ?_
                    refine z_iload F dX10_sheet_108 4 rfl 110 rfl ?_
                    refine z_iadd F dX10_sheet_110 111 rfl ?_
                    rw [ix24]
                    refine z_iconst F dX10_sheet_111 0 (by decide) 112 rfl ?_
                    refine z_iast F dX10_sheet_112 rfl (vp_in_nI (by omega) (by decide)) 113 rfl ?_
                    rw [nI_clamp (by omega), zr_s]
                    refine z_iinc F dX10_sheet_113 4 rfl 1 (by decide) [(0, _), (1, _), (2, _), (3, _), (4, _)] rfl (by decide) 116 rfl ?_
                    refine z_goto F dX10_sheet_116 93 (by decide) ?_
                    rw [nI_1]
                    exact ih n2 (k + 1) hn2 (by omega) (by omega)
              refine z_aload_n F dX10_sheet_68 0 rfl 69 rfl ?_
              refine z_getR F zc9 dX10_sheet_69 rfl 5 (by decide) (by decide) (.inl m_935) rfl (by decide) 72 rfl ?_
              refine z_iload_n F dX10_sheet_72 1 rfl 73 rfl ?_
              refine z_iload_n F dX10_sheet_73 2 rfl 74 rfl ?_
              refine z_iast F dX10_sheet_74 rfl (vp_in_nI (by omega) (by decide)) 75 rfl ?_
              rw [nI_clamp q31]
              refine z_aload_n F dX10_sheet_75 0 rfl 76 rfl ?_
              refine z_getR F zc9 dX10_sheet_76 rfl 6 (by decide) (by decide) (.inl m_936) rfl (by decide) 79 rfl ?_
              refine z_iload_n F dX10_sheet_79 1 rfl 80 rfl ?_
              refine z_iload_n F dX10_sheet_80 2 rfl 81 rfl ?_
              refine z_if_ne F dX10_sheet_81 88 (by decide) 84 rfl (fun h81 => ?_) (fun h81 => ?_)
              · skip
                refine z_iload_n F dX10_sheet_88 3 rfl 89 rfl ?_
                refine z_iast F dX10_sheet_89 rfl (vp_in_nI (by omega) (by decide)) 90 rfl ?_
                rw [nI_clamp q31]
                refine z_iconst F dX10_sheet_90 0 (by decide) 91 rfl ?_
                refine z_istore F dX10_sheet_91 [(0, _), (1, _), (2, _), (3, _), (4, _)] rfl (by decide) 93 rfl ?_
                have L := loop93 25 n 0 ((if_neg h81).symm) (by omega) (by omega)
                have ez : z_up (z_u2 (z_u2 σ 5 q b) 6 q n) 7 (zrF (σ 7) (24 * q) 0) = z_u2 (z_u2 σ 5 q b) 6 q n := zr_0
                rw [ez] at L
                exact L
              · skip
                refine z_iconst F dX10_sheet_84 0 (by decide) 85 rfl ?_
                refine z_goto F dX10_sheet_85 89 (by decide) ?_
                refine z_iast F dX10_sheet_89 rfl (vp_in_nI (by omega) (by decide)) 90 rfl ?_
                rw [nI_clamp q31]
                refine z_iconst F dX10_sheet_90 0 (by decide) 91 rfl ?_
                refine z_istore F dX10_sheet_91 [(0, _), (1, _), (2, _), (3, _), (4, _)] rfl (by decide) 93 rfl ?_
                have L := loop93 25 0 0 ((if_pos h81).symm) (by omega) (by omega)
                have ez : z_up (z_u2 (z_u2 σ 5 q b) 6 q 0) 7 (zrF (σ 7) (24 * q) 0) = z_u2 (z_u2 σ 5 q b) 6 q 0 := zr_0
                rw [ez] at L
                exact L
            · skip
              refine z_aload_n F dX10_sheet_61 0 rfl 62 rfl ?_
              refine z_ldc F dX10_sheet_62 m_1001 64 rfl ?_
              rw [lo1]
              refine z_callVi F dX10_sheet_64 m_1002 iX10_error jX10_error rfl zc9 rfl (kX10_error σ (k := 1) (by decide) (by decide)) rfl (by decide) (Nat.le_of_ble_eq_true rfl) 67 rfl (fun r64 s64 c64 => ?_)
              refine z_ri F dX10_sheet_67 ?_
              obtain ⟨rfl, rfl⟩ := c64
              exact finM (by
                unfold aSheet
                (repeat' split) <;> first | rfl | contradiction | (exfalso; simp only [Int32.lt_iff_toInt_lt, Int32.le_iff_toInt_le, ← Int32.toInt_inj, Int32.reduceToInt] at *; omega)) MO.rf
        · skip
          refine z_aload_n F dX10_sheet_44 0 rfl 45 rfl ?_
          refine z_ldc F dX10_sheet_45 m_1082 47 rfl ?_
          rw [lo3]
          refine z_callVi F dX10_sheet_47 m_1002 iX10_error jX10_error rfl zc9 rfl (kX10_error σ (k := 3) (by decide) (by decide)) rfl (by decide) (Nat.le_of_ble_eq_true rfl) 50 rfl (fun r47 s47 c47 => ?_)
          refine z_ri F dX10_sheet_50 ?_
          obtain ⟨rfl, rfl⟩ := c47
          exact finM (by
            unfold aSheet
            (repeat' split) <;> first | rfl | contradiction | (exfalso; simp only [Int32.lt_iff_toInt_lt, Int32.le_iff_toInt_le, ← Int32.toInt_inj, Int32.reduceToInt] at *; omega)) MO.rf
    · skip
      refine z_iload_n F dX10_sheet_11 2 rfl 12 rfl ?_
      refine z_bipush F dX10_sheet_12 8 (by decide) 14 rfl ?_
      refine z_icmp_eq F dX10_sheet_14 36 (by decide) 17 rfl (fun h14 => ?_) (fun h14 => ?_)
      · skip
        have hb : b = 0 ∨ b = 8 ∨ b = 16 ∨ b = 32 := Or.inr (Or.inl h14)
        refine z_iload_n F dX10_sheet_36 2 rfl 37 rfl ?_
        refine z_if_le F dX10_sheet_37 51 (by decide) 40 rfl (fun h37 => ?_) (fun h37 => ?_)
        · skip
          refine z_iload_n F dX10_sheet_51 2 rfl 52 rfl ?_
          refine z_if_le F dX10_sheet_52 68 (by decide) 55 rfl (fun h52 => ?_) (fun h52 => ?_)
          · skip
            have g1 : ¬ (¬ b = 0 ∧ n < 0) := fun z => by simp only [Int32.lt_iff_toInt_lt, Int32.le_iff_toInt_le, ← Int32.toInt_inj, Int32.reduceToInt] at *; omega
            have g2 : ¬ (¬ b = 0 ∧ 24 < n) := fun z => by simp only [Int32.lt_iff_toInt_lt, Int32.le_iff_toInt_le, ← Int32.toInt_inj, Int32.reduceToInt] at *; omega
            obtain ⟨q, hq4, rfl⟩ : ∃ q, q < 4 ∧ s = nI q := isP_of (n := 4) (s_lt4.mp h4) (by decide)
            have q31 : q < 2 ^ 31 := by omega
            have loop93 : ∀ (f : Nat) (n2 : Int32) (k : Nat) (_ : n2 = if b = 0 then 0 else n) (_ : 24 < k + f) (_ : k ≤ 24), z_X l K E shM 2 5 (z_Pi (fun rv μ' => rv = (aSheet σ (nI q) b n).1 ∧ MO (aSheet σ (nI q) b n).2 μ')) 93 [(0, .ref (z_ad E 0)), (1, .int (nI q)), (2, .int b), (3, .int n), (4, .int (nI k))] [] (z_up (z_u2 (z_u2 σ 5 q b) 6 q n2) 7 (zrF (σ 7) (24 * q) k)) := by
              intro f
              induction f with
              | zero =>
                intro n2 k hn2 hf hk
                omega
              | succ f ih =>
                intro n2 k hn2 hf hk
                refine z_iload F dX10_sheet_93 4 rfl 95 rfl ?_
                refine z_bipush F dX10_sheet_95 24 (by decide) 97 rfl ?_
                refine z_icmp_ge F dX10_sheet_97 119 (by decide) 100 rfl (fun h97 => ?_) (fun h97 => ?_)
                · skip
                  refine z_iconst F dX10_sheet_119 1 (by decide) 120 rfl ?_
                  refine z_ri F dX10_sheet_120 ?_
                  have hke : k = 24 := by have := le_nI (a := 24) h97 (by decide) (by omega); omega
                  subst hke
                  refine finM (m := shN σ q b n2) ?_ MO.rf
                  unfold aSheet
                  rw [if_pos ⟨s_lt4.mp h4, hb⟩, if_neg g1, if_neg g2, nI_clamp q31, hn2]
                · skip
                  have hk24 : k < 24 := nle_nI (b := k) (a := 24) h97 (by decide) (by omega)
                  refine z_aload_n F dX10_sheet_100 0 rfl 101 rfl ?_
                  refine z_getR F zc9 dX10_sheet_101 rfl 7 (by decide) (by decide) (.inl m_937) rfl (by decide) 104 rfl ?_
                  refine z_bipush F dX10_sheet_104 24 (by decide) 106 rfl ?_
                  refine z_iload_n F dX10_sheet_106 1 rfl 107 rfl ?_
                  refine z_imul F dX10_sheet_107 108 rfl ?_
                  refine z_iload F dX10_sheet_108 4 rfl 110 rfl ?_
                  refine z_iadd F dX10_sheet_110 111 rfl ?_
                  rw [ix24]
                  refine z_iconst F dX10_sheet_111 0 (by decide) 112 rfl ?_
                  refine z_iast F dX10_sheet_112 rfl (vp_in_nI (by omega) (by decide)) 113 rfl ?_
                  rw [nI_clamp (by omega), zr_s]
                  refine z_iinc F dX10_sheet_113 4 rfl 1 (by decide) [(0, _), (1, _), (2, _), (3, _), (4, _)] rfl (by decide) 116 rfl ?_
                  refine z_goto F dX10_sheet_116 93 (by decide) ?_
                  rw [nI_1]
                  exact ih n2 (k + 1) hn2 (by omega) (by omega)
            refine z_aload_n F dX10_sheet_68 0 rfl 69 rfl ?_
            refine z_getR F zc9 dX10_sheet_69 rfl 5 (by decide) (by decide) (.inl m_935) rfl (by decide) 72 rfl ?_
            refine z_iload_n F dX10_sheet_72 1 rfl 73 rfl ?_
            refine z_iload_n F dX10_sheet_73 2 rfl 74 rfl ?_
            refine z_iast F dX10_sheet_74 rfl (vp_in_nI (by omega) (by decide)) 75 rfl ?_
            rw [nI_clamp q31]
            refine z_aload_n F dX10_sheet_75 0 rfl 76 rfl ?_
            refine z_getR F zc9 dX10_sheet_76 rfl 6 (by decide) (by decide) (.inl m_936) rfl (by decide) 79 rfl ?_
            refine z_iload_n F dX10_sheet_79 1 rfl 80 rfl ?_
            refine z_iload_n F dX10_sheet_80 2 rfl 81 rfl ?_
            refine z_if_ne F dX10_sheet_81 88 (by decide) 84 rfl (fun h81 => ?_) (fun h81 => ?_)
            · skip
              refine z_iload_n F dX10_sheet_88 3 rfl 89 rfl ?_
              refine z_iast F dX10_sheet_89 rfl (vp_in_nI (by omega) (by decide)) 90 rfl ?_
              rw [nI_clamp q31]
              refine z_iconst F dX10_sheet_90 0 (by decide) 91 rfl ?_
              refine z_istore F dX10_sheet_91 [(0, _), (1, _), (2, _), (3, _), (4, _)] rfl (by decide) 93 rfl ?_
              have L := loop93 25 n 0 ((if_neg h81).symm) (by omega) (by omega)
              have ez : z_up (z_u2 (z_u2 σ 5 q b) 6 q n) 7 (zrF (σ 7) (24 * q) 0) = z_u2 (z_u2 σ 5 q b) 6 q n := zr_0
              rw [ez] at L
              exact L
            · skip
              refine z_iconst F dX10_sheet_84 0 (by decide) 85 rfl ?_
              refine z_goto F dX10_sheet_85 89 (by decide) ?_
              refine z_iast F dX10_sheet_89 rfl (vp_in_nI (by omega) (by decide)) 90 rfl ?_
              rw [nI_clamp q31]
              refine z_iconst F dX10_sheet_90 0 (by decide) 91 rfl ?_
              refine z_istore F dX10_sheet_91 [(0, _), (1, _), (2, _), (3, _), (4, _)] rfl (by decide) 93 rfl ?_
              have L := loop93 25 0 0 ((if_pos h81).symm) (by omega) (by omega)
              have ez : z_up (z_u2 (z_u2 σ 5 q b) 6 q 0) 7 (zrF (σ 7) (24 * q) 0) = z_u2 (z_u2 σ 5 q b) 6 q 0 := zr_0
              rw [ez] at L
              exact L
          · skip
            refine z_iload_n F dX10_sheet_55 3 rfl 56 rfl ?_
            refine z_bipush F dX10_sheet_56 24 (by decide) 58 rfl ?_
            refine z_icmp_le F dX10_sheet_58 68 (by decide) 61 rfl (fun h58 => ?_) (fun h58 => ?_)
            · skip
              have g1 : ¬ (¬ b = 0 ∧ n < 0) := fun z => by simp only [Int32.lt_iff_toInt_lt, Int32.le_iff_toInt_le, ← Int32.toInt_inj, Int32.reduceToInt] at *; omega
              have g2 : ¬ (¬ b = 0 ∧ 24 < n) := fun z => by simp only [Int32.lt_iff_toInt_lt, Int32.le_iff_toInt_le, ← Int32.toInt_inj, Int32.reduceToInt] at *; omega
              obtain ⟨q, hq4, rfl⟩ : ∃ q, q < 4 ∧ s = nI q := isP_of (n := 4) (s_lt4.mp h4) (by decide)
              have q31 : q < 2 ^ 31 := by omega
              have loop93 : ∀ (f : Nat) (n2 : Int32) (k : Nat) (_ : n2 = if b = 0 then 0 else n) (_ : 24 < k + f) (_ : k ≤ 24), z_X l K E shM 2 5 (z_Pi (fun rv μ' => rv = (aSheet σ (nI q) b n).1 ∧ MO (aSheet σ (nI q) b n).2 μ')) 93 [(0, .ref (z_ad E 0)), (1, .int (nI q)), (2, .int b), (3, .int n), (4, .int (nI k))] [] (z_up (z_u2 (z_u2 σ 5 q b) 6 q n2) 7 (zrF (σ 7) (24 * q) k)) := by
                intro f
                induction f with
                | zero =>
                  intro n2 k hn2 hf hk
                  omega
                | succ f ih =>
                  intro n2 k hn2 hf hk
                  refine z_iload F dX10_sheet_93 4 rfl 95 rfl ?_
                  refine z_bipush F dX10_sheet_95 24 (by decide) 97 rfl ?_
                  refine z_icmp_ge F dX10_sheet_97 119 (by decide) 100 rfl (fun h97 => ?_) (fun h97 => ?_)
                  · skip
                    refine z_iconst F dX10_sheet_119 1 (by decide) 120 rfl ?_
                    refine z_ri F dX10_sheet_120 ?_
                    have hke : k = 24 := by have := le_nI (a := 24) h97 (by decide) (by omega); omega
                    subst hke
                    refine finM (m := shN σ q b n2) ?_ MO.rf
                    unfold aSheet
                    rw [if_pos ⟨s_lt4.mp h4, hb⟩, if_neg g1, if_neg g2, nI_clamp q31, hn2]
                  · skip
                    have hk24 : k < 24 := nle_nI (b := k) (a := 24) h97 (by decide) (by omega)
                    refine z_aload_n F dX10_sheet_100 0 rfl 101 rfl ?_
                    refine z_getR F zc9 dX10_sheet_101 rfl 7 (by decide) (by decide) (.inl m_937) rfl (by decide) 104 rfl ?_
                    refine z_bipush F dX10_sheet_104 24 (by decide) 106 rfl ?_
                    refine z_iload_n F dX10_sheet_106 1 rfl 107 rfl ?_
                    refine z_imul F dX10_sheet_107 108 rfl ?_
                    refine z_iload F dX10_sheet_108 4 rfl 110 rfl ?_
                    refine z_iadd F dX10_sheet_110 111 rfl ?_
                    rw [ix24]
                    refine z_iconst F dX10_sheet_111 0 (by decide) 112 rfl ?_
                    refine z_iast F dX10_sheet_112 rfl (vp_in_nI (by omega) (by decide)) 113 rfl ?_
                    rw [nI_clamp (by omega), zr_s]
                    refine z_iinc F dX10_sheet_113 4 rfl 1 (by decide) [(0, _), (1, _), (2, _), (3, _), (4, _)] rfl (by decide) 116 rfl ?_
                    refine z_goto F dX10_sheet_116 93 (by decide) ?_
                    rw [nI_1]
                    exact ih n2 (k + 1) hn2 (by omega) (by omega)
              refine z_aload_n F dX10_sheet_68 0 rfl 69 rfl ?_
              refine z_getR F zc9 dX10_sheet_69 rfl 5 (by decide) (by decide) (.inl m_935) rfl (by decide) 72 rfl ?_
              refine z_iload_n F dX10_sheet_72 1 rfl 73 rfl ?_
              refine z_iload_n F dX10_sheet_73 2 rfl 74 rfl ?_
              refine z_iast F dX10_sheet_74 rfl (vp_in_nI (by omega) (by decide)) 75 rfl ?_
              rw [nI_clamp q31]
              refine z_aload_n F dX10_sheet_75 0 rfl 76 rfl ?_
              refine z_getR F zc9 dX10_sheet_76 rfl 6 (by decide) (by decide) (.inl m_936) rfl (by decide) 79 rfl ?_
              refine z_iload_n F dX10_sheet_79 1 rfl 80 rfl ?_
              refine z_iload_n F dX10_sheet_80 2 rfl 81 rfl ?_
              refine z_if_ne F dX10_sheet_81 88 (by decide) 84 rfl (fun h81 => ?_) (fun h81 => ?_)
              · skip
                refine z_iload_n F dX10_sheet_88 3 rfl 89 rfl ?_
                refine z_iast F dX10_sheet_89 rfl (vp_in_nI (by omega) (by decide)) 90 rfl ?_
                rw [nI_clamp q31]
                refine z_iconst F dX10_sheet_90 0 (by decide) 91 rfl ?_
                refine z_istore F dX10_sheet_91 [(0, _), (1, _), (2, _), (3, _), (4, _)] rfl (by decide) 93 rfl ?_
                have L := loop93 25 n 0 ((if_neg h81).symm) (by omega) (by omega)
                have ez : z_up (z_u2 (z_u2 σ 5 q b) 6 q n) 7 (zrF (σ 7) (24 * q) 0) = z_u2 (z_u2 σ 5 q b) 6 q n := zr_0
                rw [ez] at L
                exact L
              · skip
                refine z_iconst F dX10_sheet_84 0 (by decide) 85 rfl ?_
                refine z_goto F dX10_sheet_85 89 (by decide) ?_
                refine z_iast F dX10_sheet_89 rfl (vp_in_nI (by omega) (by decide)) 90 rfl ?_
                rw [nI_clamp q31]
                refine z_iconst F dX10_sheet_90 0 (by decide) 91 rfl ?_
                refine z_istore F dX10_sheet_91 [(0, _), (1, _), (2, _), (3, _), (4, _)] rfl (by decide) 93 rfl ?_
                have L := loop93 25 0 0 ((if_pos h81).symm) (by omega) (by omega)
                have ez : z_up (z_u2 (z_u2 σ 5 q b) 6 q 0) 7 (zrF (σ 7) (24 * q) 0) = z_u2 (z_u2 σ 5 q b) 6 q 0 := zr_0
                rw [ez] at L
                exact L
            · skip
              refine z_aload_n F dX10_sheet_61 0 rfl 62 rfl ?_
              refine z_ldc F dX10_sheet_62 m_1001 64 rfl ?_
              rw [lo1]
              refine z_callVi F dX10_sheet_64 m_1002 iX10_error jX10_error rfl zc9 rfl (kX10_error σ (k := 1) (by decide) (by decide)) rfl (by decide) (Nat.le_of_ble_eq_true rfl) 67 rfl (fun r64 s64 c64 => ?_)
              refine z_ri F dX10_sheet_67 ?_
              obtain ⟨rfl, rfl⟩ := c64
              exact finM (by
                unfold aSheet
                (repeat' split) <;> first | rfl | contradiction | (exfalso; simp only [Int32.lt_iff_toInt_lt, Int32.le_iff_toInt_le, ← Int32.toInt_inj, Int32.reduceToInt] at *; omega)) MO.rf
        · skip
          refine z_iload_n F dX10_sheet_40 3 rfl 41 rfl ?_
          refine z_if_ge F dX10_sheet_41 51 (by decide) 44 rfl (fun h41 => ?_) (fun h41 => ?_)
          · skip
            refine z_iload_n F dX10_sheet_51 2 rfl 52 rfl ?_
            refine z_if_le F dX10_sheet_52 68 (by decide) 55 rfl (fun h52 => ?_) (fun h52 => ?_)
            · skip
              have g1 : ¬ (¬ b = 0 ∧ n < 0) := fun z => by simp only [Int32.lt_iff_toInt_lt, Int32.le_iff_toInt_le, ← Int32.toInt_inj, Int32.reduceToInt] at *; omega
              have g2 : ¬ (¬ b = 0 ∧ 24 < n) := fun z => by simp only [Int32.lt_iff_toInt_lt, Int32.le_iff_toInt_le, ← Int32.toInt_inj, Int32.reduceToInt] at *; omega
              obtain ⟨q, hq4, rfl⟩ : ∃ q, q < 4 ∧ s = nI q := isP_of (n := 4) (s_lt4.mp h4) (by decide)
              have q31 : q < 2 ^ 31 := by omega
              have loop93 : ∀ (f : Nat) (n2 : Int32) (k : Nat) (_ : n2 = if b = 0 then 0 else n) (_ : 24 < k + f) (_ : k ≤ 24), z_X l K E shM 2 5 (z_Pi (fun rv μ' => rv = (aSheet σ (nI q) b n).1 ∧ MO (aSheet σ (nI q) b n).2 μ')) 93 [(0, .ref (z_ad E 0)), (1, .int (nI q)), (2, .int b), (3, .int n), (4, .int (nI k))] [] (z_up (z_u2 (z_u2 σ 5 q b) 6 q n2) 7 (zrF (σ 7) (24 * q) k)) := by
                intro f
                induction f with
                | zero =>
                  intro n2 k hn2 hf hk
                  omega
                | succ f ih =>
                  intro n2 k hn2 hf hk
                  refine z_iload F dX10_sheet_93 4 rfl 95 rfl ?_
                  refine z_bipush F dX10_sheet_95 24 (by decide) 97 rfl ?_
                  refine z_icmp_ge F dX10_sheet_97 119 (by decide) 100 rfl (fun h97 => ?_) (fun h97 => ?_)
                  · skip
                    refine z_iconst F dX10_sheet_119 1 (by decide) 120 rfl ?_
                    refine z_ri F dX10_sheet_120 ?_
                    have hke : k = 24 := by have := le_nI (a := 24) h97 (by decide) (by omega); omega
                    subst hke
                    refine finM (m := shN σ q b n2) ?_ MO.rf
                    unfold aSheet
                    rw [if_pos ⟨s_lt4.mp h4, hb⟩, if_neg g1, if_neg g2, nI_clamp q31, hn2]
                  · skip
                    have hk24 : k < 24 := nle_nI (b := k) (a := 24) h97 (by decide) (by omega)
                    refine z_aload_n F dX10_sheet_100 0 rfl 101 rfl ?_
                    refine z_getR F zc9 dX10_sheet_101 rfl 7 (by decide) (by decide) (.inl m_937) rfl (by decide) 104 rfl ?_
                    refine z_bipush F dX10_sheet_104 24 (by decide) 106 rfl ?_
                    refine z_iload_n F dX10_sheet_106 1 rfl 107 rfl ?_
                    refine z_imul F dX10_sheet_107 108 rfl ?_
                    refine z_iload F dX10_sheet_108 4 rfl 110 rfl ?_
                    refine z_iadd F dX10_sheet_110 111 rfl ?_
                    rw [ix24]
                    refine z_iconst F dX10_sheet_111 0 (by decide) 112 rfl ?_
                    refine z_iast F dX10_sheet_112 rfl (vp_in_nI (by omega) (by decide)) 113 rfl ?_
                    rw [nI_clamp (by omega), zr_s]
                    refine z_iinc F dX10_sheet_113 4 rfl 1 (by decide) [(0, _), (1, _), (2, _), (3, _), (4, _)] rfl (by decide) 116 rfl ?_
                    refine z_goto F dX10_sheet_116 93 (by decide) ?_
                    rw [nI_1]
                    exact ih n2 (k + 1) hn2 (by omega) (by omega)
              refine z_aload_n F dX10_sheet_68 0 rfl 69 rfl ?_
              refine z_getR F zc9 dX10_sheet_69 rfl 5 (by decide) (by decide) (.inl m_935) rfl (by decide) 72 rfl ?_
              refine z_iload_n F dX10_sheet_72 1 rfl 73 rfl ?_
              refine z_iload_n F dX10_sheet_73 2 rfl 74 rfl ?_
              refine z_iast F dX10_sheet_74 rfl (vp_in_nI (by omega) (by decide)) 75 rfl ?_
              rw [nI_clamp q31]
              refine z_aload_n F dX10_sheet_75 0 rfl 76 rfl ?_
              refine z_getR F zc9 dX10_sheet_76 rfl 6 (by decide) (by decide) (.inl m_936) rfl (by decide) 79 rfl ?_
              refine z_iload_n F dX10_sheet_79 1 rfl 80 rfl ?_
              refine z_iload_n F dX10_sheet_80 2 rfl 81 rfl ?_
              refine z_if_ne F dX10_sheet_81 88 (by decide) 84 rfl (fun h81 => ?_) (fun h81 => ?_)
              · skip
                refine z_iload_n F dX10_sheet_88 3 rfl 89 rfl ?_
                refine z_iast F dX10_sheet_89 rfl (vp_in_nI (by omega) (by decide)) 90 rfl ?_
                rw [nI_clamp q31]
                refine z_iconst F dX10_sheet_90 0 (by decide) 91 rfl ?_
                refine z_istore F dX10_sheet_91 [(0, _), (1, _), (2, _), (3, _), (4, _)] rfl (by decide) 93 rfl ?_
                have L := loop93 25 n 0 ((if_neg h81).symm) (by omega) (by omega)
                have ez : z_up (z_u2 (z_u2 σ 5 q b) 6 q n) 7 (zrF (σ 7) (24 * q) 0) = z_u2 (z_u2 σ 5 q b) 6 q n := zr_0
                rw [ez] at L
                exact L
              · skip
                refine z_iconst F dX10_sheet_84 0 (by decide) 85 rfl ?_
                refine z_goto F dX10_sheet_85 89 (by decide) ?_
                refine z_iast F dX10_sheet_89 rfl (vp_in_nI (by omega) (by decide)) 90 rfl ?_
                rw [nI_clamp q31]
                refine z_iconst F dX10_sheet_90 0 (by decide) 91 rfl ?_
                refine z_istore F dX10_sheet_91 [(0, _), (1, _), (2, _), (3, _), (4, _)] rfl (by decide) 93 rfl ?_
                have L := loop93 25 0 0 ((if_pos h81).symm) (by omega) (by omega)
                have ez : z_up (z_u2 (z_u2 σ 5 q b) 6 q 0) 7 (zrF (σ 7) (24 * q) 0) = z_u2 (z_u2 σ 5 q b) 6 q 0 := zr_0
                rw [ez] at L
                exact L
            · skip
              refine z_iload_n F dX10_sheet_55 3 rfl 56 rfl ?_
              refine z_bipush F dX10_sheet_56 24 (by decide) 58 rfl ?_
              refine z_icmp_le F dX10_sheet_58 68 (by decide) 61 rfl (fun h58 => ?_) (fun h58 => ?_)
              · skip
                have g1 : ¬ (¬ b = 0 ∧ n < 0) := fun z => by simp only [Int32.lt_iff_toInt_lt, Int32.le_iff_toInt_le, ← Int32.toInt_inj, Int32.reduceToInt] at *; omega
                have g2 : ¬ (¬ b = 0 ∧ 24 < n) := fun z => by simp only [Int32.lt_iff_toInt_lt, Int32.le_iff_toInt_le, ← Int32.toInt_inj, Int32.reduceToInt] at *; omega
                obtain ⟨q, hq4, rfl⟩ : ∃ q, q < 4 ∧ s = nI q := isP_of (n := 4) (s_lt4.mp h4) (by decide)
                have q31 : q < 2 ^ 31 := by omega
                have loop93 : ∀ (f : Nat) (n2 : Int32) (k : Nat) (_ : n2 = if b = 0 then 0 else n) (_ : 24 < k + f) (_ : k ≤ 24), z_X l K E shM 2 5 (z_Pi (fun rv μ' => rv = (aSheet σ (nI q) b n).1 ∧ MO (aSheet σ (nI q) b n).2 μ')) 93 [(0, .ref (z_ad E 0)), (1, .int (nI q)), (2, .int b), (3, .int n), (4, .int (nI k))] [] (z_up (z_u2 (z_u2 σ 5 q b) 6 q n2) 7 (zrF (σ 7) (24 * q) k)) := by
                  intro f
                  induction f with
                  | zero =>
                    intro n2 k hn2 hf hk
                    omega
                  | succ f ih =>
                    intro n2 k hn2 hf hk
                    refine z_iload F dX10_sheet_93 4 rfl 95 rfl ?_
                    refine z_bipush F dX10_sheet_95 24 (by decide) 97 rfl ?_
                    refine z_icmp_ge F dX10_sheet_97 119 (by decide) 100 rfl (fun h97 => ?_) (fun h97 => ?_)
                    · skip
                      refine z_iconst F dX10_sheet_119 1 (by decide) 120 rfl ?_
                      refine z_ri F dX10_sheet_120 ?_
                      have hke : k = 24 := by have := le_nI (a := 24) h97 (by decide) (by omega); omega
                      subst hke
                      refine finM (m := shN σ q b n2) ?_ MO.rf
                      unfold aSheet
                      rw [if_pos ⟨s_lt4.mp h4, hb⟩, if_neg g1, if_neg g2, nI_clamp q31, hn2]
                    · skip
                      have hk24 : k < 24 := nle_nI (b := k) (a := 24) h97 (by decide) (by omega)
                      refine z_aload_n F dX10_sheet_100 0 rfl 101 rfl ?_
                      refine z_getR F zc9 dX10_sheet_101 rfl 7 (by decide) (by decide) (.inl m_937) rfl (by decide) 104 rfl ?_
                      refine z_bipush F dX10_sheet_104 24 (by decide) 106 rfl ?_
                      refine z_iload_n F dX10_sheet_106 1 rfl 107 rfl ?_
                      refine z_imul F dX10_sheet_107 108 rfl ?_
                      refine z_iload F dX10_sheet_108 4 rfl 110 rfl ?_
                      refine z_iadd F dX10_sheet_110 111 rfl ?_
                      rw [ix24]
                      refine z_iconst F dX10_sheet_111 0 (by decide) 112 rfl ?_
                      refine z_iast F dX10_sheet_112 rfl (vp_in_nI (by omega) (by decide)) 113 rfl ?_
                      rw [nI_clamp (by omega), zr_s]
                      refine z_iinc F dX10_sheet_113 4 rfl 1 (by decide) [(0, _), (1, _), (2, _), (3, _), (4, _)] rfl (by decide) 116 rfl ?_
                      refine z_goto F dX10_sheet_116 93 (by decide) ?_
                      rw [nI_1]
                      exact ih n2 (k + 1) hn2 (by omega) (by omega)
                refine z_aload_n F dX10_sheet_68 0 rfl 69 rfl ?_
                refine z_getR F zc9 dX10_sheet_69 rfl 5 (by decide) (by decide) (.inl m_935) rfl (by decide) 72 rfl ?_
                refine z_iload_n F dX10_sheet_72 1 rfl 73 rfl ?_
                refine z_iload_n F dX10_sheet_73 2 rfl 74 rfl ?_
                refine z_iast F dX10_sheet_74 rfl (vp_in_nI (by omega) (by decide)) 75 rfl ?_
                rw [nI_clamp q31]
                refine z_aload_n F dX10_sheet_75 0 rfl 76 rfl ?_
                refine z_getR F zc9 dX10_sheet_76 rfl 6 (by decide) (by decide) (.inl m_936) rfl (by decide) 79 rfl ?_
                refine z_iload_n F dX10_sheet_79 1 rfl 80 rfl ?_
                refine z_iload_n F dX10_sheet_80 2 rfl 81 rfl ?_
                refine z_if_ne F dX10_sheet_81 88 (by decide) 84 rfl (fun h81 => ?_) (fun h81 => ?_)
                · skip
                  refine z_iload_n F dX10_sheet_88 3 rfl 89 rfl ?_
                  refine z_iast F dX10_sheet_89 rfl (vp_in_nI (by omega) (by decide)) 90 rfl ?_
                  rw [nI_clamp q31]
                  refine z_iconst F dX10_sheet_90 0 (by decide) 91 rfl ?_
                  refine z_istore F dX10_sheet_91 [(0, _), (1, _), (2, _), (3, _), (4, _)] rfl (by decide) 93 rfl ?_
                  have L := loop93 25 n 0 ((if_neg h81).symm) (by omega) (by omega)
                  have ez : z_up (z_u2 (z_u2 σ 5 q b) 6 q n) 7 (zrF (σ 7) (24 * q) 0) = z_u2 (z_u2 σ 5 q b) 6 q n := zr_0
                  rw [ez] at L
                  exact L
                · skip
                  refine z_iconst F dX10_sheet_84 0 (by decide) 85 rfl ?_
                  refine z_goto F dX10_sheet_85 89 (by decide) ?_
                  refine z_iast F dX10_sheet_89 rfl (vp_in_nI (by omega) (by decide)) 90 rfl ?_
                  rw [nI_clamp q31]
                  refine z_iconst F dX10_sheet_90 0 (by decide) 91 rfl ?_
                  refine z_istore F dX10_sheet_91 [(0, _), (1, _), (2, _), (3, _), (4, _)] rfl (by decide) 93 rfl ?_
                  have L := loop93 25 0 0 ((if_pos h81).symm) (by omega) (by omega)
                  have ez : z_up (z_u2 (z_u2 σ 5 q b) 6 q 0) 7 (zrF (σ 7) (24 * q) 0) = z_u2 (z_u2 σ 5 q b) 6 q 0 := zr_0
                  rw [ez] at L
                  exact L
              · skip
                refine z_aload_n F dX10_sheet_61 0 rfl 62 rfl ?_
                refine z_ldc F dX10_sheet_62 m_1001 64 rfl ?_
                rw [lo1]
                refine z_callVi F dX10_sheet_64 m_1002 iX10_error jX10_error rfl zc9 rfl (kX10_error σ (k := 1) (by decide) (by decide)) rfl (by decide) (Nat.le_of_ble_eq_true rfl) 67 rfl (fun r64 s64 c64 => ?_)
                refine z_ri F dX10_sheet_67 ?_
                obtain ⟨rfl, rfl⟩ := c64
                exact finM (by
                  unfold aSheet
                  (repeat' split) <;> first | rfl | contradiction | (exfalso; simp only [Int32.lt_iff_toInt_lt, Int32.le_iff_toInt_le, ← Int32.toInt_inj, Int32.reduceToInt] at *; omega)) MO.rf
          · skip
            refine z_aload_n F dX10_sheet_44 0 rfl 45 rfl ?_
            refine z_ldc F dX10_sheet_45 m_1082 47 rfl ?_
            rw [lo3]
            refine z_callVi F dX10_sheet_47 m_1002 iX10_error jX10_error rfl zc9 rfl (kX10_error σ (k := 3) (by decide) (by decide)) rfl (by decide) (Nat.le_of_ble_eq_true rfl) 50 rfl (fun r47 s47 c47 => ?_)
            refine z_ri F dX10_sheet_50 ?_
            obtain ⟨rfl, rfl⟩ := c47
            exact finM (by
              unfold aSheet
              (repeat' split) <;> first | rfl | contradiction | (exfalso; simp only [Int32.lt_iff_toInt_lt, Int32.le_iff_toInt_le, ← Int32.toInt_inj, Int32.reduceToInt] at *; omega)) MO.rf
      · skip
        refine z_iload_n F dX10_sheet_17 2 rfl 18 rfl ?_
        refine z_bipush F dX10_sheet_18 16 (by decide) 20 rfl ?_
        refine z_icmp_eq F dX10_sheet_20 36 (by decide) 23 rfl (fun h20 => ?_) (fun h20 => ?_)
        · skip
          have hb : b = 0 ∨ b = 8 ∨ b = 16 ∨ b = 32 := Or.inr (Or.inr (Or.inl h20))
          refine z_iload_n F dX10_sheet_36 2 rfl 37 rfl ?_
          refine z_if_le F dX10_sheet_37 51 (by decide) 40 rfl (fun h37 => ?_) (fun h37 => ?_)
          · skip
            refine z_iload_n F dX10_sheet_51 2 rfl 52 rfl ?_
            refine z_if_le F dX10_sheet_52 68 (by decide) 55 rfl (fun h52 => ?_) (fun h52 => ?_)
            · skip
              have g1 : ¬ (¬ b = 0 ∧ n < 0) := fun z => by simp only [Int32.lt_iff_toInt_lt, Int32.le_iff_toInt_le, ← Int32.toInt_inj, Int32.reduceToInt] at *; omega
              have g2 : ¬ (¬ b = 0 ∧ 24 < n) := fun z => by simp only [Int32.lt_iff_toInt_lt, Int32.le_iff_toInt_le, ← Int32.toInt_inj, Int32.reduceToInt] at *; omega
              obtain ⟨q, hq4, rfl⟩ : ∃ q, q < 4 ∧ s = nI q := isP_of (n := 4) (s_lt4.mp h4) (by decide)
              have q31 : q < 2 ^ 31 := by omega
              have loop93 : ∀ (f : Nat) (n2 : Int32) (k : Nat) (_ : n2 = if b = 0 then 0 else n) (_ : 24 < k + f) (_ : k ≤ 24), z_X l K E shM 2 5 (z_Pi (fun rv μ' => rv = (aSheet σ (nI q) b n).1 ∧ MO (aSheet σ (nI q) b n).2 μ')) 93 [(0, .ref (z_ad E 0)), (1, .int (nI q)), (2, .int b), (3, .int n), (4, .int (nI k))] [] (z_up (z_u2 (z_u2 σ 5 q b) 6 q n2) 7 (zrF (σ 7) (24 * q) k)) := by
                intro f
                induction f with
                | zero =>
                  intro n2 k hn2 hf hk
                  omega
                | succ f ih =>
                  intro n2 k hn2 hf hk
                  refine z_iload F dX10_sheet_93 4 rfl 95 rfl ?_
                  refine z_bipush F dX10_sheet_95 24 (by decide) 97 rfl ?_
                  refine z_icmp_ge F dX10_sheet_97 119 (by decide) 100 rfl (fun h97 => ?_) (fun h97 => ?_)
                  · skip
                    refine z_iconst F dX10_sheet_119 1 (by decide) 120 rfl ?_
                    refine z_ri F dX10_sheet_120 ?_
                    have hke : k = 24 := by have := le_nI (a := 24) h97 (by decide) (by omega); omega
                    subst hke
                    refine finM (m := shN σ q b n2) ?_ MO.rf
                    unfold aSheet
                    rw [if_pos ⟨s_lt4.mp h4, hb⟩, if_neg g1, if_neg g2, nI_clamp q31, hn2]
                  · skip
                    have hk24 : k < 24 := nle_nI (b := k) (a := 24) h97 (by decide) (by omega)
                    refine z_aload_n F dX10_sheet_100 0 rfl 101 rfl ?_
                    refine z_getR F zc9 dX10_sheet_101 rfl 7 (by decide) (by decide) (.inl m_937) rfl (by decide) 104 rfl ?_
                    refine z_bipush F dX10_sheet_104 24 (by decide) 106 rfl ?_
                    refine z_iload_n F dX10_sheet_106 1 rfl 107 rfl ?_
                    refine z_imul F dX10_sheet_107 108 rfl ?_
                    refine z_iload F dX10_sheet_108 4 rfl 110 rfl ?_
                    refine z_iadd F dX10_sheet_110 111 rfl ?_
                    rw [ix24]
                    refine z_iconst F dX10_sheet_111 0 (by decide) 112 rfl ?_
                    refine z_iast F dX10_sheet_112 rfl (vp_in_nI (by omega) (by decide)) 113 rfl ?_
                    rw [nI_clamp (by omega), zr_s]
                    refine z_iinc F dX10_sheet_113 4 rfl 1 (by decide) [(0, _), (1, _), (2, _), (3, _), (4, _)] rfl (by decide) 116 rfl ?_
                    refine z_goto F dX10_sheet_116 93 (by decide) ?_
                    rw [nI_1]
                    exact ih n2 (k + 1) hn2 (by omega) (by omega)
              refine z_aload_n F dX10_sheet_68 0 rfl 69 rfl ?_
              refine z_getR F zc9 dX10_sheet_69 rfl 5 (by decide) (by decide) (.inl m_935) rfl (by decide) 72 rfl ?_
              refine z_iload_n F dX10_sheet_72 1 rfl 73 rfl ?_
              refine z_iload_n F dX10_sheet_73 2 rfl 74 rfl ?_
              refine z_iast F dX10_sheet_74 rfl (vp_in_nI (by omega) (by decide)) 75 rfl ?_
              rw [nI_clamp q31]
              refine z_aload_n F dX10_sheet_75 0 rfl 76 rfl ?_
              refine z_getR F zc9 dX10_sheet_76 rfl 6 (by decide) (by decide) (.inl m_936) rfl (by decide) 79 rfl ?_
              refine z_iload_n F dX10_sheet_79 1 rfl 80 rfl ?_
              refine z_iload_n F dX10_sheet_80 2 rfl 81 rfl ?_
              refine z_if_ne F dX10_sheet_81 88 (by decide) 84 rfl (fun h81 => ?_) (fun h81 => ?_)
              · skip
                refine z_iload_n F dX10_sheet_88 3 rfl 89 rfl ?_
                refine z_iast F dX10_sheet_89 rfl (vp_in_nI (by omega) (by decide)) 90 rfl ?_
                rw [nI_clamp q31]
                refine z_iconst F dX10_sheet_90 0 (by decide) 91 rfl ?_
                refine z_istore F dX10_sheet_91 [(0, _), (1, _), (2, _), (3, _), (4, _)] rfl (by decide) 93 rfl ?_
                have L := loop93 25 n 0 ((if_neg h81).symm) (by omega) (by omega)
                have ez : z_up (z_u2 (z_u2 σ 5 q b) 6 q n) 7 (zrF (σ 7) (24 * q) 0) = z_u2 (z_u2 σ 5 q b) 6 q n := zr_0
                rw [ez] at L
                exact L
              · skip
                refine z_iconst F dX10_sheet_84 0 (by decide) 85 rfl ?_
                refine z_goto F dX10_sheet_85 89 (by decide) ?_
                refine z_iast F dX10_sheet_89 rfl (vp_in_nI (by omega) (by decide)) 90 rfl ?_
                rw [nI_clamp q31]
                refine z_iconst F dX10_sheet_90 0 (by decide) 91 rfl ?_
                refine z_istore F dX10_sheet_91 [(0, _), (1, _), (2, _), (3, _), (4, _)] rfl (by decide) 93 rfl ?_
                have L := loop93 25 0 0 ((if_pos h81).symm) (by omega) (by omega)
                have ez : z_up (z_u2 (z_u2 σ 5 q b) 6 q 0) 7 (zrF (σ 7) (24 * q) 0) = z_u2 (z_u2 σ 5 q b) 6 q 0 := zr_0
                rw [ez] at L
                exact L
            · skip
              refine z_iload_n F dX10_sheet_55 3 rfl 56 rfl ?_
              refine z_bipush F dX10_sheet_56 24 (by decide) 58 rfl ?_
              refine z_icmp_le F dX10_sheet_58 68 (by decide) 61 rfl (fun h58 => ?_) (fun h58 => ?_)
              · skip
                have g1 : ¬ (¬ b = 0 ∧ n < 0) := fun z => by simp only [Int32.lt_iff_toInt_lt, Int32.le_iff_toInt_le, ← Int32.toInt_inj, Int32.reduceToInt] at *; omega
                have g2 : ¬ (¬ b = 0 ∧ 24 < n) := fun z => by simp only [Int32.lt_iff_toInt_lt, Int32.le_iff_toInt_le, ← Int32.toInt_inj, Int32.reduceToInt] at *; omega
                obtain ⟨q, hq4, rfl⟩ : ∃ q, q < 4 ∧ s = nI q := isP_of (n := 4) (s_lt4.mp h4) (by decide)
                have q31 : q < 2 ^ 31 := by omega
                have loop93 : ∀ (f : Nat) (n2 : Int32) (k : Nat) (_ : n2 = if b = 0 then 0 else n) (_ : 24 < k + f) (_ : k ≤ 24), z_X l K E shM 2 5 (z_Pi (fun rv μ' => rv = (aSheet σ (nI q) b n).1 ∧ MO (aSheet σ (nI q) b n).2 μ')) 93 [(0, .ref (z_ad E 0)), (1, .int (nI q)), (2, .int b), (3, .int n), (4, .int (nI k))] [] (z_up (z_u2 (z_u2 σ 5 q b) 6 q n2) 7 (zrF (σ 7) (24 * q) k)) := by
                  intro f
                  induction f with
                  | zero =>
                    intro n2 k hn2 hf hk
                    omega
                  | succ f ih =>
                    intro n2 k hn2 hf hk
                    refine z_iload F dX10_sheet_93 4 rfl 95 rfl ?_
                    refine z_bipush F dX10_sheet_95 24 (by decide) 97 rfl ?_
                    refine z_icmp_ge F dX10_sheet_97 119 (by decide) 100 rfl (fun h97 => ?_) (fun h97 => ?_)
                    · skip
                      refine z_iconst F dX10_sheet_119 1 (by decide) 120 rfl ?_
                      refine z_ri F dX10_sheet_120 ?_
                      have hke : k = 24 := by have := le_nI (a := 24) h97 (by decide) (by omega); omega
                      subst hke
                      refine finM (m := shN σ q b n2) ?_ MO.rf
                      unfold aSheet
                      rw [if_pos ⟨s_lt4.mp h4, hb⟩, if_neg g1, if_neg g2, nI_clamp q31, hn2]
                    · skip
                      have hk24 : k < 24 := nle_nI (b := k) (a := 24) h97 (by decide) (by omega)
                      refine z_aload_n F dX10_sheet_100 0 rfl 101 rfl ?_
                      refine z_getR F zc9 dX10_sheet_101 rfl 7 (by decide) (by decide) (.inl m_937) rfl (by decide) 104 rfl ?_
                      refine z_bipush F dX10_sheet_104 24 (by decide) 106 rfl ?_
                      refine z_iload_n F dX10_sheet_106 1 rfl 107 rfl ?_
                      refine z_imul F dX10_sheet_107 108 rfl ?_
                      refine z_iload F dX10_sheet_108 4 rfl 110 rfl ?_
                      refine z_iadd F dX10_sheet_110 111 rfl ?_
                      rw [ix24]
                      refine z_iconst F dX10_sheet_111 0 (by decide) 112 rfl ?_
                      refine z_iast F dX10_sheet_112 rfl (vp_in_nI (by omega) (by decide)) 113 rfl ?_
                      rw [nI_clamp (by omega), zr_s]
                      refine z_iinc F dX10_sheet_113 4 rfl 1 (by decide) [(0, _), (1, _), (2, _), (3, _), (4, _)] rfl (by decide) 116 rfl ?_
                      refine z_goto F dX10_sheet_116 93 (by decide) ?_
                      rw [nI_1]
                      exact ih n2 (k + 1) hn2 (by omega) (by omega)
                refine z_aload_n F dX10_sheet_68 0 rfl 69 rfl ?_
                refine z_getR F zc9 dX10_sheet_69 rfl 5 (by decide) (by decide) (.inl m_935) rfl (by decide) 72 rfl ?_
                refine z_iload_n F dX10_sheet_72 1 rfl 73 rfl ?_
                refine z_iload_n F dX10_sheet_73 2 rfl 74 rfl ?_
                refine z_iast F dX10_sheet_74 rfl (vp_in_nI (by omega) (by decide)) 75 rfl ?_
                rw [nI_clamp q31]
                refine z_aload_n F dX10_sheet_75 0 rfl 76 rfl ?_
                refine z_getR F zc9 dX10_sheet_76 rfl 6 (by decide) (by decide) (.inl m_936) rfl (by decide) 79 rfl ?_
                refine z_iload_n F dX10_sheet_79 1 rfl 80 rfl ?_
                refine z_iload_n F dX10_sheet_80 2 rfl 81 rfl ?_
                refine z_if_ne F dX10_sheet_81 88 (by decide) 84 rfl (fun h81 => ?_) (fun h81 => ?_)
                · skip
                  refine z_iload_n F dX10_sheet_88 3 rfl 89 rfl ?_
                  refine z_iast F dX10_sheet_89 rfl (vp_in_nI (by omega) (by decide)) 90 rfl ?_
                  rw [nI_clamp q31]
                  refine z_iconst F dX10_sheet_90 0 (by decide) 91 rfl ?_
                  refine z_istore F dX10_sheet_91 [(0, _), (1, _), (2, _), (3, _), (4, _)] rfl (by decide) 93 rfl ?_
                  have L := loop93 25 n 0 ((if_neg h81).symm) (by omega) (by omega)
                  have ez : z_up (z_u2 (z_u2 σ 5 q b) 6 q n) 7 (zrF (σ 7) (24 * q) 0) = z_u2 (z_u2 σ 5 q b) 6 q n := zr_0
                  rw [ez] at L
                  exact L
                · skip
                  refine z_iconst F dX10_sheet_84 0 (by decide) 85 rfl ?_
                  refine z_goto F dX10_sheet_85 89 (by decide) ?_
                  refine z_iast F dX10_sheet_89 rfl (vp_in_nI (by omega) (by decide)) 90 rfl ?_
                  rw [nI_clamp q31]
                  refine z_iconst F dX10_sheet_90 0 (by decide) 91 rfl ?_
                  refine z_istore F dX10_sheet_91 [(0, _), (1, _), (2, _), (3, _), (4, _)] rfl (by decide) 93 rfl ?_
                  have L := loop93 25 0 0 ((if_pos h81).symm) (by omega) (by omega)
                  have ez : z_up (z_u2 (z_u2 σ 5 q b) 6 q 0) 7 (zrF (σ 7) (24 * q) 0) = z_u2 (z_u2 σ 5 q b) 6 q 0 := zr_0
                  rw [ez] at L
                  exact L
              · skip
                refine z_aload_n F dX10_sheet_61 0 rfl 62 rfl ?_
                refine z_ldc F dX10_sheet_62 m_1001 64 rfl ?_
                rw [lo1]
                refine z_callVi F dX10_sheet_64 m_1002 iX10_error jX10_error rfl zc9 rfl (kX10_error σ (k := 1) (by decide) (by decide)) rfl (by decide) (Nat.le_of_ble_eq_true rfl) 67 rfl (fun r64 s64 c64 => ?_)
                refine z_ri F dX10_sheet_67 ?_
                obtain ⟨rfl, rfl⟩ := c64
                exact finM (by
                  unfold aSheet
                  (repeat' split) <;> first | rfl | contradiction | (exfalso; simp only [Int32.lt_iff_toInt_lt, Int32.le_iff_toInt_le, ← Int32.toInt_inj, Int32.reduceToInt] at *; omega)) MO.rf
          · skip
            refine z_iload_n F dX10_sheet_40 3 rfl 41 rfl ?_
            refine z_if_ge F dX10_sheet_41 51 (by decide) 44 rfl (fun h41 => ?_) (fun h41 => ?_)
            · skip
              refine z_iload_n F dX10_sheet_51 2 rfl 52 rfl ?_
              refine z_if_le F dX10_sheet_52 68 (by decide) 55 rfl (fun h52 => ?_) (fun h52 => ?_)
              · skip
                have g1 : ¬ (¬ b = 0 ∧ n < 0) := fun z => by simp only [Int32.lt_iff_toInt_lt, Int32.le_iff_toInt_le, ← Int32.toInt_inj, Int32.reduceToInt] at *; omega
                have g2 : ¬ (¬ b = 0 ∧ 24 < n) := fun z => by simp only [Int32.lt_iff_toInt_lt, Int32.le_iff_toInt_le, ← Int32.toInt_inj, Int32.reduceToInt] at *; omega
                obtain ⟨q, hq4, rfl⟩ : ∃ q, q < 4 ∧ s = nI q := isP_of (n := 4) (s_lt4.mp h4) (by decide)
                have q31 : q < 2 ^ 31 := by omega
                have loop93 : ∀ (f : Nat) (n2 : Int32) (k : Nat) (_ : n2 = if b = 0 then 0 else n) (_ : 24 < k + f) (_ : k ≤ 24), z_X l K E shM 2 5 (z_Pi (fun rv μ' => rv = (aSheet σ (nI q) b n).1 ∧ MO (aSheet σ (nI q) b n).2 μ')) 93 [(0, .ref (z_ad E 0)), (1, .int (nI q)), (2, .int b), (3, .int n), (4, .int (nI k))] [] (z_up (z_u2 (z_u2 σ 5 q b) 6 q n2) 7 (zrF (σ 7) (24 * q) k)) := by
                  intro f
                  induction f with
                  | zero =>
                    intro n2 k hn2 hf hk
                    omega
                  | succ f ih =>
                    intro n2 k hn2 hf hk
                    refine z_iload F dX10_sheet_93 4 rfl 95 rfl ?_
                    refine z_bipush F dX10_sheet_95 24 (by decide) 97 rfl ?_
                    refine z_icmp_ge F dX10_sheet_97 119 (by decide) 100 rfl (fun h97 => ?_) (fun h97 => ?_)
                    · skip
                      refine z_iconst F dX10_sheet_119 1 (by decide) 120 rfl ?_
                      refine z_ri F dX10_sheet_120 ?_
                      have hke : k = 24 := by have := le_nI (a := 24) h97 (by decide) (by omega); omega
                      subst hke
                      refine finM (m := shN σ q b n2) ?_ MO.rf
                      unfold aSheet
                      rw [if_pos ⟨s_lt4.mp h4, hb⟩, if_neg g1, if_neg g2, nI_clamp q31, hn2]
                    · skip
                      have hk24 : k < 24 := nle_nI (b := k) (a := 24) h97 (by decide) (by omega)
                      refine z_aload_n F dX10_sheet_100 0 rfl 101 rfl ?_
                      refine z_getR F zc9 dX10_sheet_101 rfl 7 (by decide) (by decide) (.inl m_937) rfl (by decide) 104 rfl ?_
                      refine z_bipush F dX10_sheet_104 24 (by decide) 106 rfl ?_
                      refine z_iload_n F dX10_sheet_106 1 rfl 107 rfl ?_
                      refine z_imul F dX10_sheet_107 108 rfl ?_
                      refine z_iload F dX10_sheet_108 4 rfl 110 rfl ?_
                      refine z_iadd F dX10_sheet_110 111 rfl ?_
                      rw [ix24]
                      refine z_iconst F dX10_sheet_111 0 (by decide) 112 rfl ?_
                      refine z_iast F dX10_sheet_112 rfl (vp_in_nI (by omega) (by decide)) 113 rfl ?_
                      rw [nI_clamp (by omega), zr_s]
                      refine z_iinc F dX10_sheet_113 4 rfl 1 (by decide) [(0, _), (1, _), (2, _), (3, _), (4, _)] rfl (by decide) 116 rfl ?_
                      refine z_goto F dX10_sheet_116 93 (by decide) ?_
                      rw [nI_1]
                      exact ih n2 (k + 1) hn2 (by omega) (by omega)
                refine z_aload_n F dX10_sheet_68 0 rfl 69 rfl ?_
                refine z_getR F zc9 dX10_sheet_69 rfl 5 (by decide) (by decide) (.inl m_935) rfl (by decide) 72 rfl ?_
                refine z_iload_n F dX10_sheet_72 1 rfl 73 rfl ?_
                refine z_iload_n F dX10_sheet_73 2 rfl 74 rfl ?_
                refine z_iast F dX10_sheet_74 rfl (vp_in_nI (by omega) (by decide)) 75 rfl ?_
                rw [nI_clamp q31]
                refine z_aload_n F dX10_sheet_75 0 rfl 76 rfl ?_
                refine z_getR F zc9 dX10_sheet_76 rfl 6 (by decide) (by decide) (.inl m_936) rfl (by decide) 79 rfl ?_
                refine z_iload_n F dX10_sheet_79 1 rfl 80 rfl ?_
                refine z_iload_n F dX10_sheet_80 2 rfl 81 rfl ?_
                refine z_if_ne F dX10_sheet_81 88 (by decide) 84 rfl (fun h81 => ?_) (fun h81 => ?_)
                · skip
                  refine z_iload_n F dX10_sheet_88 3 rfl 89 rfl ?_
                  refine z_iast F dX10_sheet_89 rfl (vp_in_nI (by omega) (by decide)) 90 rfl ?_
                  rw [nI_clamp q31]
                  refine z_iconst F dX10_sheet_90 0 (by decide) 91 rfl ?_
                  refine z_istore F dX10_sheet_91 [(0, _), (1, _), (2, _), (3, _), (4, _)] rfl (by decide) 93 rfl ?_
                  have L := loop93 25 n 0 ((if_neg h81).symm) (by omega) (by omega)
                  have ez : z_up (z_u2 (z_u2 σ 5 q b) 6 q n) 7 (zrF (σ 7) (24 * q) 0) = z_u2 (z_u2 σ 5 q b) 6 q n := zr_0
                  rw [ez] at L
                  exact L
                · skip
                  refine z_iconst F dX10_sheet_84 0 (by decide) 85 rfl ?_
                  refine z_goto F dX10_sheet_85 89 (by decide) ?_
                  refine z_iast F dX10_sheet_89 rfl (vp_in_nI (by omega) (by decide)) 90 rfl ?_
                  rw [nI_clamp q31]
                  refine z_iconst F dX10_sheet_90 0 (by decide) 91 rfl ?_
                  refine z_istore F dX10_sheet_91 [(0, _), (1, _), (2, _), (3, _), (4, _)] rfl (by decide) 93 rfl ?_
                  have L := loop93 25 0 0 ((if_pos h81).symm) (by omega) (by omega)
                  have ez : z_up (z_u2 (z_u2 σ 5 q b) 6 q 0) 7 (zrF (σ 7) (24 * q) 0) = z_u2 (z_u2 σ 5 q b) 6 q 0 := zr_0
                  rw [ez] at L
                  exact L
              · skip
                refine z_iload_n F dX10_sheet_55 3 rfl 56 rfl ?_
                refine z_bipush F dX10_sheet_56 24 (by decide) 58 rfl ?_
                refine z_icmp_le F dX10_sheet_58 68 (by decide) 61 rfl (fun h58 => ?_) (fun h58 => ?_)
                · skip
                  have g1 : ¬ (¬ b = 0 ∧ n < 0) := fun z => by simp only [Int32.lt_iff_toInt_lt, Int32.le_iff_toInt_le, ← Int32.toInt_inj, Int32.reduceToInt] at *; omega
                  have g2 : ¬ (¬ b = 0 ∧ 24 < n) := fun z => by simp only [Int32.lt_iff_toInt_lt, Int32.le_iff_toInt_le, ← Int32.toInt_inj, Int32.reduceToInt] at *; omega
                  obtain ⟨q, hq4, rfl⟩ : ∃ q, q < 4 ∧ s = nI q := isP_of (n := 4) (s_lt4.mp h4) (by decide)
                  have q31 : q < 2 ^ 31 := by omega
                  have loop93 : ∀ (f : Nat) (n2 : Int32) (k : Nat) (_ : n2 = if b = 0 then 0 else n) (_ : 24 < k + f) (_ : k ≤ 24), z_X l K E shM 2 5 (z_Pi (fun rv μ' => rv = (aSheet σ (nI q) b n).1 ∧ MO (aSheet σ (nI q) b n).2 μ')) 93 [(0, .ref (z_ad E 0)), (1, .int (nI q)), (2, .int b), (3, .int n), (4, .int (nI k))] [] (z_up (z_u2 (z_u2 σ 5 q b) 6 q n2) 7 (zrF (σ 7) (24 * q) k)) := by
                    intro f
                    induction f with
                    | zero =>
                      intro n2 k hn2 hf hk
                      omega
                    | succ f ih =>
                      intro n2 k hn2 hf hk
                      refine z_iload F dX10_sheet_93 4 rfl 95 rfl ?_
                      refine z_bipush F dX10_sheet_95 24 (by decide) 97 rfl ?_
                      refine z_icmp_ge F dX10_sheet_97 119 (by decide) 100 rfl (fun h97 => ?_) (fun h97 => ?_)
                      · skip
                        refine z_iconst F dX10_sheet_119 1 (by decide) 120 rfl ?_
                        refine z_ri F dX10_sheet_120 ?_
                        have hke : k = 24 := by have := le_nI (a := 24) h97 (by decide) (by omega); omega
                        subst hke
                        refine finM (m := shN σ q b n2) ?_ MO.rf
                        unfold aSheet
                        rw [if_pos ⟨s_lt4.mp h4, hb⟩, if_neg g1, if_neg g2, nI_clamp q31, hn2]
                      · skip
                        have hk24 : k < 24 := nle_nI (b := k) (a := 24) h97 (by decide) (by omega)
                        refine z_aload_n F dX10_sheet_100 0 rfl 101 rfl ?_
                        refine z_getR F zc9 dX10_sheet_101 rfl 7 (by decide) (by decide) (.inl m_937) rfl (by decide) 104 rfl ?_
                        refine z_bipush F dX10_sheet_104 24 (by decide) 106 rfl ?_
                        refine z_iload_n F dX10_sheet_106 1 rfl 107 rfl ?_
                        refine z_imul F dX10_sheet_107 108 rfl ?_
                        refine z_iload F dX10_sheet_108 4 rfl 110 rfl ?_
                        refine z_iadd F dX10_sheet_110 111 rfl ?_
                        rw [ix24]
                        refine z_iconst F dX10_sheet_111 0 (by decide) 112 rfl ?_
                        refine z_iast F dX10_sheet_112 rfl (vp_in_nI (by omega) (by decide)) 113 rfl ?_
                        rw [nI_clamp (by omega), zr_s]
                        refine z_iinc F dX10_sheet_113 4 rfl 1 (by decide) [(0, _), (1, _), (2, _), (3, _), (4, _)] rfl (by decide) 116 rfl ?_
                        refine z_goto F dX10_sheet_116 93 (by decide) ?_
                        rw [nI_1]
                        exact ih n2 (k + 1) hn2 (by omega) (by omega)
                  refine z_aload_n F dX10_sheet_68 0 rfl 69 rfl ?_
                  refine z_getR F zc9 dX10_sheet_69 rfl 5 (by decide) (by decide) (.inl m_935) rfl (by decide) 72 rfl ?_
                  refine z_iload_n F dX10_sheet_72 1 rfl 73 rfl ?_
                  refine z_iload_n F dX10_sheet_73 2 rfl 74 rfl ?_
                  refine z_iast F dX10_sheet_74 rfl (vp_in_nI (by omega) (by decide)) 75 rfl ?_
                  rw [nI_clamp q31]
                  refine z_aload_n F dX10_sheet_75 0 rfl 76 rfl ?_
                  refine z_getR F zc9 dX10_sheet_76 rfl 6 (by decide) (by decide) (.inl m_936) rfl (by decide) 79 rfl ?_
                  refine z_iload_n F dX10_sheet_79 1 rfl 80 rfl ?_
                  refine z_iload_n F dX10_sheet_80 2 rfl 81 rfl ?_
                  refine z_if_ne F dX10_sheet_81 88 (by decide) 84 rfl (fun h81 => ?_) (fun h81 => ?_)
                  · skip
                    refine z_iload_n F dX10_sheet_88 3 rfl 89 rfl ?_
                    refine z_iast F dX10_sheet_89 rfl (vp_in_nI (by omega) (by decide)) 90 rfl ?_
                    rw [nI_clamp q31]
                    refine z_iconst F dX10_sheet_90 0 (by decide) 91 rfl ?_
                    refine z_istore F dX10_sheet_91 [(0, _), (1, _), (2, _), (3, _), (4, _)] rfl (by decide) 93 rfl ?_
                    have L := loop93 25 n 0 ((if_neg h81).symm) (by omega) (by omega)
                    have ez : z_up (z_u2 (z_u2 σ 5 q b) 6 q n) 7 (zrF (σ 7) (24 * q) 0) = z_u2 (z_u2 σ 5 q b) 6 q n := zr_0
                    rw [ez] at L
                    exact L
                  · skip
                    refine z_iconst F dX10_sheet_84 0 (by decide) 85 rfl ?_
                    refine z_goto F dX10_sheet_85 89 (by decide) ?_
                    refine z_iast F dX10_sheet_89 rfl (vp_in_nI (by omega) (by decide)) 90 rfl ?_
                    rw [nI_clamp q31]
                    refine z_iconst F dX10_sheet_90 0 (by decide) 91 rfl ?_
                    refine z_istore F dX10_sheet_91 [(0, _), (1, _), (2, _), (3, _), (4, _)] rfl (by decide) 93 rfl ?_
                    have L := loop93 25 0 0 ((if_pos h81).symm) (by omega) (by omega)
                    have ez : z_up (z_u2 (z_u2 σ 5 q b) 6 q 0) 7 (zrF (σ 7) (24 * q) 0) = z_u2 (z_u2 σ 5 q b) 6 q 0 := zr_0
                    rw [ez] at L
                    exact L
                · skip
                  refine z_aload_n F dX10_sheet_61 0 rfl 62 rfl ?_
                  refine z_ldc F dX10_sheet_62 m_1001 64 rfl ?_
                  rw [lo1]
                  refine z_callVi F dX10_sheet_64 m_1002 iX10_error jX10_error rfl zc9 rfl (kX10_error σ (k := 1) (by decide) (by decide)) rfl (by decide) (Nat.le_of_ble_eq_true rfl) 67 rfl (fun r64 s64 c64 => ?_)
                  refine z_ri F dX10_sheet_67 ?_
                  obtain ⟨rfl, rfl⟩ := c64
                  exact finM (by
                    unfold aSheet
                    (repeat' split) <;> first | rfl | contradiction | (exfalso; simp only [Int32.lt_iff_toInt_lt, Int32.le_iff_toInt_le, ← Int32.toInt_inj, Int32.reduceToInt] at *; omega)) MO.rf
            · skip
              refine z_aload_n F dX10_sheet_44 0 rfl 45 rfl ?_
              refine z_ldc F dX10_sheet_45 m_1082 47 rfl ?_
              rw [lo3]
              refine z_callVi F dX10_sheet_47 m_1002 iX10_error jX10_error rfl zc9 rfl (kX10_error σ (k := 3) (by decide) (by decide)) rfl (by decide) (Nat.le_of_ble_eq_true rfl) 50 rfl (fun r47 s47 c47 => ?_)
              refine z_ri F dX10_sheet_50 ?_
              obtain ⟨rfl, rfl⟩ := c47
              exact finM (by
                unfold aSheet
                (repeat' split) <;> first | rfl | contradiction | (exfalso; simp only [Int32.lt_iff_toInt_lt, Int32.le_iff_toInt_le, ← Int32.toInt_inj, Int32.reduceToInt] at *; omega)) MO.rf
        · skip
          refine z_iload_n F dX10_sheet_23 2 rfl 24 rfl ?_
          refine z_bipush F dX10_sheet_24 32 (by decide) 26 rfl ?_
          refine z_icmp_eq F dX10_sheet_26 36 (by decide) 29 rfl (fun h26 => ?_) (fun h26 => ?_)
          · skip
            have hb : b = 0 ∨ b = 8 ∨ b = 16 ∨ b = 32 := Or.inr (Or.inr (Or.inr h26))
            refine z_iload_n F dX10_sheet_36 2 rfl 37 rfl ?_
            refine z_if_le F dX10_sheet_37 51 (by decide) 40 rfl (fun h37 => ?_) (fun h37 => ?_)
            · skip
              refine z_iload_n F dX10_sheet_51 2 rfl 52 rfl ?_
              refine z_if_le F dX10_sheet_52 68 (by decide) 55 rfl (fun h52 => ?_) (fun h52 => ?_)
              · skip
                have g1 : ¬ (¬ b = 0 ∧ n < 0) := fun z => by simp only [Int32.lt_iff_toInt_lt, Int32.le_iff_toInt_le, ← Int32.toInt_inj, Int32.reduceToInt] at *; omega
                have g2 : ¬ (¬ b = 0 ∧ 24 < n) := fun z => by simp only [Int32.lt_iff_toInt_lt, Int32.le_iff_toInt_le, ← Int32.toInt_inj, Int32.reduceToInt] at *; omega
                obtain ⟨q, hq4, rfl⟩ : ∃ q, q < 4 ∧ s = nI q := isP_of (n := 4) (s_lt4.mp h4) (by decide)
                have q31 : q < 2 ^ 31 := by omega
                have loop93 : ∀ (f : Nat) (n2 : Int32) (k : Nat) (_ : n2 = if b = 0 then 0 else n) (_ : 24 < k + f) (_ : k ≤ 24), z_X l K E shM 2 5 (z_Pi (fun rv μ' => rv = (aSheet σ (nI q) b n).1 ∧ MO (aSheet σ (nI q) b n).2 μ')) 93 [(0, .ref (z_ad E 0)), (1, .int (nI q)), (2, .int b), (3, .int n), (4, .int (nI k))] [] (z_up (z_u2 (z_u2 σ 5 q b) 6 q n2) 7 (zrF (σ 7) (24 * q) k)) := by
                  intro f
                  induction f with
                  | zero =>
                    intro n2 k hn2 hf hk
                    omega
                  | succ f ih =>
                    intro n2 k hn2 hf hk
                    refine z_iload F dX10_sheet_93 4 rfl 95 rfl ?_
                    refine z_bipush F dX10_sheet_95 24 (by decide) 97 rfl ?_
                    refine z_icmp_ge F dX10_sheet_97 119 (by decide) 100 rfl (fun h97 => ?_) (fun h97 => ?_)
                    · skip
                      refine z_iconst F dX10_sheet_119 1 (by decide) 120 rfl ?_
                      refine z_ri F dX10_sheet_120 ?_
                      have hke : k = 24 := by have := le_nI (a := 24) h97 (by decide) (by omega); omega
                      subst hke
                      refine finM (m := shN σ q b n2) ?_ MO.rf
                      unfold aSheet
                      rw [if_pos ⟨s_lt4.mp h4, hb⟩, if_neg g1, if_neg g2, nI_clamp q31, hn2]
                    · skip
                      have hk24 : k < 24 := nle_nI (b := k) (a := 24) h97 (by decide) (by omega)
                      refine z_aload_n F dX10_sheet_100 0 rfl 101 rfl ?_
                      refine z_getR F zc9 dX10_sheet_101 rfl 7 (by decide) (by decide) (.inl m_937) rfl (by decide) 104 rfl ?_
                      refine z_bipush F dX10_sheet_104 24 (by decide) 106 rfl ?_
                      refine z_iload_n F dX10_sheet_106 1 rfl 107 rfl ?_
                      refine z_imul F dX10_sheet_107 108 rfl ?_
                      refine z_iload F dX10_sheet_108 4 rfl 110 rfl ?_
                      refine z_iadd F dX10_sheet_110 111 rfl ?_
                      rw [ix24]
                      refine z_iconst F dX10_sheet_111 0 (by decide) 112 rfl ?_
                      refine z_iast F dX10_sheet_112 rfl (vp_in_nI (by omega) (by decide)) 113 rfl ?_
                      rw [nI_clamp (by omega), zr_s]
                      refine z_iinc F dX10_sheet_113 4 rfl 1 (by decide) [(0, _), (1, _), (2, _), (3, _), (4, _)] rfl (by decide) 116 rfl ?_
                      refine z_goto F dX10_sheet_116 93 (by decide) ?_
                      rw [nI_1]
                      exact ih n2 (k + 1) hn2 (by omega) (by omega)
                refine z_aload_n F dX10_sheet_68 0 rfl 69 rfl ?_
                refine z_getR F zc9 dX10_sheet_69 rfl 5 (by decide) (by decide) (.inl m_935) rfl (by decide) 72 rfl ?_
                refine z_iload_n F dX10_sheet_72 1 rfl 73 rfl ?_
                refine z_iload_n F dX10_sheet_73 2 rfl 74 rfl ?_
                refine z_iast F dX10_sheet_74 rfl (vp_in_nI (by omega) (by decide)) 75 rfl ?_
                rw [nI_clamp q31]
                refine z_aload_n F dX10_sheet_75 0 rfl 76 rfl ?_
                refine z_getR F zc9 dX10_sheet_76 rfl 6 (by decide) (by decide) (.inl m_936) rfl (by decide) 79 rfl ?_
                refine z_iload_n F dX10_sheet_79 1 rfl 80 rfl ?_
                refine z_iload_n F dX10_sheet_80 2 rfl 81 rfl ?_
                refine z_if_ne F dX10_sheet_81 88 (by decide) 84 rfl (fun h81 => ?_) (fun h81 => ?_)
                · skip
                  refine z_iload_n F dX10_sheet_88 3 rfl 89 rfl ?_
                  refine z_iast F dX10_sheet_89 rfl (vp_in_nI (by omega) (by decide)) 90 rfl ?_
                  rw [nI_clamp q31]
                  refine z_iconst F dX10_sheet_90 0 (by decide) 91 rfl ?_
                  refine z_istore F dX10_sheet_91 [(0, _), (1, _), (2, _), (3, _), (4, _)] rfl (by decide) 93 rfl ?_
                  have L := loop93 25 n 0 ((if_neg h81).symm) (by omega) (by omega)
                  have ez : z_up (z_u2 (z_u2 σ 5 q b) 6 q n) 7 (zrF (σ 7) (24 * q) 0) = z_u2 (z_u2 σ 5 q b) 6 q n := zr_0
                  rw [ez] at L
                  exact L
                · skip
                  refine z_iconst F dX10_sheet_84 0 (by decide) 85 rfl ?_
                  refine z_goto F dX10_sheet_85 89 (by decide) ?_
                  refine z_iast F dX10_sheet_89 rfl (vp_in_nI (by omega) (by decide)) 90 rfl ?_
                  rw [nI_clamp q31]
                  refine z_iconst F dX10_sheet_90 0 (by decide) 91 rfl ?_
                  refine z_istore F dX10_sheet_91 [(0, _), (1, _), (2, _), (3, _), (4, _)] rfl (by decide) 93 rfl ?_
                  have L := loop93 25 0 0 ((if_pos h81).symm) (by omega) (by omega)
                  have ez : z_up (z_u2 (z_u2 σ 5 q b) 6 q 0) 7 (zrF (σ 7) (24 * q) 0) = z_u2 (z_u2 σ 5 q b) 6 q 0 := zr_0
                  rw [ez] at L
                  exact L
              · skip
                refine z_iload_n F dX10_sheet_55 3 rfl 56 rfl ?_
                refine z_bipush F dX10_sheet_56 24 (by decide) 58 rfl ?_
                refine z_icmp_le F dX10_sheet_58 68 (by decide) 61 rfl (fun h58 => ?_) (fun h58 => ?_)
                · skip
                  have g1 : ¬ (¬ b = 0 ∧ n < 0) := fun z => by simp only [Int32.lt_iff_toInt_lt, Int32.le_iff_toInt_le, ← Int32.toInt_inj, Int32.reduceToInt] at *; omega
                  have g2 : ¬ (¬ b = 0 ∧ 24 < n) := fun z => by simp only [Int32.lt_iff_toInt_lt, Int32.le_iff_toInt_le, ← Int32.toInt_inj, Int32.reduceToInt] at *; omega
                  obtain ⟨q, hq4, rfl⟩ : ∃ q, q < 4 ∧ s = nI q := isP_of (n := 4) (s_lt4.mp h4) (by decide)
                  have q31 : q < 2 ^ 31 := by omega
                  have loop93 : ∀ (f : Nat) (n2 : Int32) (k : Nat) (_ : n2 = if b = 0 then 0 else n) (_ : 24 < k + f) (_ : k ≤ 24), z_X l K E shM 2 5 (z_Pi (fun rv μ' => rv = (aSheet σ (nI q) b n).1 ∧ MO (aSheet σ (nI q) b n).2 μ')) 93 [(0, .ref (z_ad E 0)), (1, .int (nI q)), (2, .int b), (3, .int n), (4, .int (nI k))] [] (z_up (z_u2 (z_u2 σ 5 q b) 6 q n2) 7 (zrF (σ 7) (24 * q) k)) := by
                    intro f
                    induction f with
                    | zero =>
                      intro n2 k hn2 hf hk
                      omega
                    | succ f ih =>
                      intro n2 k hn2 hf hk
                      refine z_iload F dX10_sheet_93 4 rfl 95 rfl ?_
                      refine z_bipush F dX10_sheet_95 24 (by decide) 97 rfl ?_
                      refine z_icmp_ge F dX10_sheet_97 119 (by decide) 100 rfl (fun h97 => ?_) (fun h97 => ?_)
                      · skip
                        refine z_iconst F dX10_sheet_119 1 (by decide) 120 rfl ?_
                        refine z_ri F dX10_sheet_120 ?_
                        have hke : k = 24 := by have := le_nI (a := 24) h97 (by decide) (by omega); omega
                        subst hke
                        refine finM (m := shN σ q b n2) ?_ MO.rf
                        unfold aSheet
                        rw [if_pos ⟨s_lt4.mp h4, hb⟩, if_neg g1, if_neg g2, nI_clamp q31, hn2]
                      · skip
                        have hk24 : k < 24 := nle_nI (b := k) (a := 24) h97 (by decide) (by omega)
                        refine z_aload_n F dX10_sheet_100 0 rfl 101 rfl ?_
                        refine z_getR F zc9 dX10_sheet_101 rfl 7 (by decide) (by decide) (.inl m_937) rfl (by decide) 104 rfl ?_
                        refine z_bipush F dX10_sheet_104 24 (by decide) 106 rfl ?_
                        refine z_iload_n F dX10_sheet_106 1 rfl 107 rfl ?_
                        refine z_imul F dX10_sheet_107 108 rfl ?_
                        refine z_iload F dX10_sheet_108 4 rfl 110 rfl ?_
                        refine z_iadd F dX10_sheet_110 111 rfl ?_
                        rw [ix24]
                        refine z_iconst F dX10_sheet_111 0 (by decide) 112 rfl ?_
                        refine z_iast F dX10_sheet_112 rfl (vp_in_nI (by omega) (by decide)) 113 rfl ?_
                        rw [nI_clamp (by omega), zr_s]
                        refine z_iinc F dX10_sheet_113 4 rfl 1 (by decide) [(0, _), (1, _), (2, _), (3, _), (4, _)] rfl (by decide) 116 rfl ?_
                        refine z_goto F dX10_sheet_116 93 (by decide) ?_
                        rw [nI_1]
                        exact ih n2 (k + 1) hn2 (by omega) (by omega)
                  refine z_aload_n F dX10_sheet_68 0 rfl 69 rfl ?_
                  refine z_getR F zc9 dX10_sheet_69 rfl 5 (by decide) (by decide) (.inl m_935) rfl (by decide) 72 rfl ?_
                  refine z_iload_n F dX10_sheet_72 1 rfl 73 rfl ?_
                  refine z_iload_n F dX10_sheet_73 2 rfl 74 rfl ?_
                  refine z_iast F dX10_sheet_74 rfl (vp_in_nI (by omega) (by decide)) 75 rfl ?_
                  rw [nI_clamp q31]
                  refine z_aload_n F dX10_sheet_75 0 rfl 76 rfl ?_
                  refine z_getR F zc9 dX10_sheet_76 rfl 6 (by decide) (by decide) (.inl m_936) rfl (by decide) 79 rfl ?_
                  refine z_iload_n F dX10_sheet_79 1 rfl 80 rfl ?_
                  refine z_iload_n F dX10_sheet_80 2 rfl 81 rfl ?_
                  refine z_if_ne F dX10_sheet_81 88 (by decide) 84 rfl (fun h81 => ?_) (fun h81 => ?_)
                  · skip
                    refine z_iload_n F dX10_sheet_88 3 rfl 89 rfl ?_
                    refine z_iast F dX10_sheet_89 rfl (vp_in_nI (by omega) (by decide)) 90 rfl ?_
                    rw [nI_clamp q31]
                    refine z_iconst F dX10_sheet_90 0 (by decide) 91 rfl ?_
                    refine z_istore F dX10_sheet_91 [(0, _), (1, _), (2, _), (3, _), (4, _)] rfl (by decide) 93 rfl ?_
                    have L := loop93 25 n 0 ((if_neg h81).symm) (by omega) (by omega)
                    have ez : z_up (z_u2 (z_u2 σ 5 q b) 6 q n) 7 (zrF (σ 7) (24 * q) 0) = z_u2 (z_u2 σ 5 q b) 6 q n := zr_0
                    rw [ez] at L
                    exact L
                  · skip
                    refine z_iconst F dX10_sheet_84 0 (by decide) 85 rfl ?_
                    refine z_goto F dX10_sheet_85 89 (by decide) ?_
                    refine z_iast F dX10_sheet_89 rfl (vp_in_nI (by omega) (by decide)) 90 rfl ?_
                    rw [nI_clamp q31]
                    refine z_iconst F dX10_sheet_90 0 (by decide) 91 rfl ?_
                    refine z_istore F dX10_sheet_91 [(0, _), (1, _), (2, _), (3, _), (4, _)] rfl (by decide) 93 rfl ?_
                    have L := loop93 25 0 0 ((if_pos h81).symm) (by omega) (by omega)
                    have ez : z_up (z_u2 (z_u2 σ 5 q b) 6 q 0) 7 (zrF (σ 7) (24 * q) 0) = z_u2 (z_u2 σ 5 q b) 6 q 0 := zr_0
                    rw [ez] at L
                    exact L
                · skip
                  refine z_aload_n F dX10_sheet_61 0 rfl 62 rfl ?_
                  refine z_ldc F dX10_sheet_62 m_1001 64 rfl ?_
                  rw [lo1]
                  refine z_callVi F dX10_sheet_64 m_1002 iX10_error jX10_error rfl zc9 rfl (kX10_error σ (k := 1) (by decide) (by decide)) rfl (by decide) (Nat.le_of_ble_eq_true rfl) 67 rfl (fun r64 s64 c64 => ?_)
                  refine z_ri F dX10_sheet_67 ?_
                  obtain ⟨rfl, rfl⟩ := c64
                  exact finM (by
                    unfold aSheet
                    (repeat' split) <;> first | rfl | contradiction | (exfalso; simp only [Int32.lt_iff_toInt_lt, Int32.le_iff_toInt_le, ← Int32.toInt_inj, Int32.reduceToInt] at *; omega)) MO.rf
            · skip
              refine z_iload_n F dX10_sheet_40 3 rfl 41 rfl ?_
              refine z_if_ge F dX10_sheet_41 51 (by decide) 44 rfl (fun h41 => ?_) (fun h41 => ?_)
              · skip
                refine z_iload_n F dX10_sheet_51 2 rfl 52 rfl ?_
                refine z_if_le F dX10_sheet_52 68 (by decide) 55 rfl (fun h52 => ?_) (fun h52 => ?_)
                · skip
                  have g1 : ¬ (¬ b = 0 ∧ n < 0) := fun z => by simp only [Int32.lt_iff_toInt_lt, Int32.le_iff_toInt_le, ← Int32.toInt_inj, Int32.reduceToInt] at *; omega
                  have g2 : ¬ (¬ b = 0 ∧ 24 < n) := fun z => by simp only [Int32.lt_iff_toInt_lt, Int32.le_iff_toInt_le, ← Int32.toInt_inj, Int32.reduceToInt] at *; omega
                  obtain ⟨q, hq4, rfl⟩ : ∃ q, q < 4 ∧ s = nI q := isP_of (n := 4) (s_lt4.mp h4) (by decide)
                  have q31 : q < 2 ^ 31 := by omega
                  have loop93 : ∀ (f : Nat) (n2 : Int32) (k : Nat) (_ : n2 = if b = 0 then 0 else n) (_ : 24 < k + f) (_ : k ≤ 24), z_X l K E shM 2 5 (z_Pi (fun rv μ' => rv = (aSheet σ (nI q) b n).1 ∧ MO (aSheet σ (nI q) b n).2 μ')) 93 [(0, .ref (z_ad E 0)), (1, .int (nI q)), (2, .int b), (3, .int n), (4, .int (nI k))] [] (z_up (z_u2 (z_u2 σ 5 q b) 6 q n2) 7 (zrF (σ 7) (24 * q) k)) := by
                    intro f
                    induction f with
                    | zero =>
                      intro n2 k hn2 hf hk
                      omega
                    | succ f ih =>
                      intro n2 k hn2 hf hk
                      refine z_iload F dX10_sheet_93 4 rfl 95 rfl ?_
                      refine z_bipush F dX10_sheet_95 24 (by decide) 97 rfl ?_
                      refine z_icmp_ge F dX10_sheet_97 119 (by decide) 100 rfl (fun h97 => ?_) (fun h97 => ?_)
                      · skip
                        refine z_iconst F dX10_sheet_119 1 (by decide) 120 rfl ?_
                        refine z_ri F dX10_sheet_120 ?_
                        have hke : k = 24 := by have := le_nI (a := 24) h97 (by decide) (by omega); omega
                        subst hke
                        refine finM (m := shN σ q b n2) ?_ MO.rf
                        unfold aSheet
                        rw [if_pos ⟨s_lt4.mp h4, hb⟩, if_neg g1, if_neg g2, nI_clamp q31, hn2]
                      · skip
                        have hk24 : k < 24 := nle_nI (b := k) (a := 24) h97 (by decide) (by omega)
                        refine z_aload_n F dX10_sheet_100 0 rfl 101 rfl ?_
                        refine z_getR F zc9 dX10_sheet_101 rfl 7 (by decide) (by decide) (.inl m_937) rfl (by decide) 104 rfl ?_
                        refine z_bipush F dX10_sheet_104 24 (by decide) 106 rfl ?_
                        refine z_iload_n F dX10_sheet_106 1 rfl 107 rfl ?_
                        refine z_imul F dX10_sheet_107 108 rfl ?_
                        refine z_iload F dX10_sheet_108 4 rfl 110 rfl ?_
                        refine z_iadd F dX10_sheet_110 111 rfl ?_
                        rw [ix24]
                        refine z_iconst F dX10_sheet_111 0 (by decide) 112 rfl ?_
                        refine z_iast F dX10_sheet_112 rfl (vp_in_nI (by omega) (by decide)) 113 rfl ?_
                        rw [nI_clamp (by omega), zr_s]
                        refine z_iinc F dX10_sheet_113 4 rfl 1 (by decide) [(0, _), (1, _), (2, _), (3, _), (4, _)] rfl (by decide) 116 rfl ?_
                        refine z_goto F dX10_sheet_116 93 (by decide) ?_
                        rw [nI_1]
                        exact ih n2 (k + 1) hn2 (by omega) (by omega)
                  refine z_aload_n F dX10_sheet_68 0 rfl 69 rfl ?_
                  refine z_getR F zc9 dX10_sheet_69 rfl 5 (by decide) (by decide) (.inl m_935) rfl (by decide) 72 rfl ?_
                  refine z_iload_n F dX10_sheet_72 1 rfl 73 rfl ?_
                  refine z_iload_n F dX10_sheet_73 2 rfl 74 rfl ?_
                  refine z_iast F dX10_sheet_74 rfl (vp_in_nI (by omega) (by decide)) 75 rfl ?_
                  rw [nI_clamp q31]
                  refine z_aload_n F dX10_sheet_75 0 rfl 76 rfl ?_
                  refine z_getR F zc9 dX10_sheet_76 rfl 6 (by decide) (by decide) (.inl m_936) rfl (by decide) 79 rfl ?_
                  refine z_iload_n F dX10_sheet_79 1 rfl 80 rfl ?_
                  refine z_iload_n F dX10_sheet_80 2 rfl 81 rfl ?_
                  refine z_if_ne F dX10_sheet_81 88 (by decide) 84 rfl (fun h81 => ?_) (fun h81 => ?_)
                  · skip
                    refine z_iload_n F dX10_sheet_88 3 rfl 89 rfl ?_
                    refine z_iast F dX10_sheet_89 rfl (vp_in_nI (by omega) (by decide)) 90 rfl ?_
                    rw [nI_clamp q31]
                    refine z_iconst F dX10_sheet_90 0 (by decide) 91 rfl ?_
                    refine z_istore F dX10_sheet_91 [(0, _), (1, _), (2, _), (3, _), (4, _)] rfl (by decide) 93 rfl ?_
                    have L := loop93 25 n 0 ((if_neg h81).symm) (by omega) (by omega)
                    have ez : z_up (z_u2 (z_u2 σ 5 q b) 6 q n) 7 (zrF (σ 7) (24 * q) 0) = z_u2 (z_u2 σ 5 q b) 6 q n := zr_0
                    rw [ez] at L
                    exact L
                  · skip
                    refine z_iconst F dX10_sheet_84 0 (by decide) 85 rfl ?_
                    refine z_goto F dX10_sheet_85 89 (by decide) ?_
                    refine z_iast F dX10_sheet_89 rfl (vp_in_nI (by omega) (by decide)) 90 rfl ?_
                    rw [nI_clamp q31]
                    refine z_iconst F dX10_sheet_90 0 (by decide) 91 rfl ?_
                    refine z_istore F dX10_sheet_91 [(0, _), (1, _), (2, _), (3, _), (4, _)] rfl (by decide) 93 rfl ?_
                    have L := loop93 25 0 0 ((if_pos h81).symm) (by omega) (by omega)
                    have ez : z_up (z_u2 (z_u2 σ 5 q b) 6 q 0) 7 (zrF (σ 7) (24 * q) 0) = z_u2 (z_u2 σ 5 q b) 6 q 0 := zr_0
                    rw [ez] at L
                    exact L
                · skip
                  refine z_iload_n F dX10_sheet_55 3 rfl 56 rfl ?_
                  refine z_bipush F dX10_sheet_56 24 (by decide) 58 rfl ?_
                  refine z_icmp_le F dX10_sheet_58 68 (by decide) 61 rfl (fun h58 => ?_) (fun h58 => ?_)
                  · skip
                    have g1 : ¬ (¬ b = 0 ∧ n < 0) := fun z => by simp only [Int32.lt_iff_toInt_lt, Int32.le_iff_toInt_le, ← Int32.toInt_inj, Int32.reduceToInt] at *; omega
                    have g2 : ¬ (¬ b = 0 ∧ 24 < n) := fun z => by simp only [Int32.lt_iff_toInt_lt, Int32.le_iff_toInt_le, ← Int32.toInt_inj, Int32.reduceToInt] at *; omega
                    obtain ⟨q, hq4, rfl⟩ : ∃ q, q < 4 ∧ s = nI q := isP_of (n := 4) (s_lt4.mp h4) (by decide)
                    have q31 : q < 2 ^ 31 := by omega
                    have loop93 : ∀ (f : Nat) (n2 : Int32) (k : Nat) (_ : n2 = if b = 0 then 0 else n) (_ : 24 < k + f) (_ : k ≤ 24), z_X l K E shM 2 5 (z_Pi (fun rv μ' => rv = (aSheet σ (nI q) b n).1 ∧ MO (aSheet σ (nI q) b n).2 μ')) 93 [(0, .ref (z_ad E 0)), (1, .int (nI q)), (2, .int b), (3, .int n), (4, .int (nI k))] [] (z_up (z_u2 (z_u2 σ 5 q b) 6 q n2) 7 (zrF (σ 7) (24 * q) k)) := by
                      intro f
                      induction f with
                      | zero =>
                        intro n2 k hn2 hf hk
                        omega
                      | succ f ih =>
                        intro n2 k hn2 hf hk
                        refine z_iload F dX10_sheet_93 4 rfl 95 rfl ?_
                        refine z_bipush F dX10_sheet_95 24 (by decide) 97 rfl ?_
                        refine z_icmp_ge F dX10_sheet_97 119 (by decide) 100 rfl (fun h97 => ?_) (fun h97 => ?_)
                        · skip
                          refine z_iconst F dX10_sheet_119 1 (by decide) 120 rfl ?_
                          refine z_ri F dX10_sheet_120 ?_
                          have hke : k = 24 := by have := le_nI (a := 24) h97 (by decide) (by omega); omega
                          subst hke
                          refine finM (m := shN σ q b n2) ?_ MO.rf
                          unfold aSheet
                          rw [if_pos ⟨s_lt4.mp h4, hb⟩, if_neg g1, if_neg g2, nI_clamp q31, hn2]
                        · skip
                          have hk24 : k < 24 := nle_nI (b := k) (a := 24) h97 (by decide) (by omega)
                          refine z_aload_n F dX10_sheet_100 0 rfl 101 rfl ?_
                          refine z_getR F zc9 dX10_sheet_101 rfl 7 (by decide) (by decide) (.inl m_937) rfl (by decide) 104 rfl ?_
                          refine z_bipush F dX10_sheet_104 24 (by decide) 106 rfl ?_
                          refine z_iload_n F dX10_sheet_106 1 rfl 107 rfl ?_
                          refine z_imul F dX10_sheet_107 108 rfl ?_
                          refine z_iload F dX10_sheet_108 4 rfl 110 rfl ?_
                          refine z_iadd F dX10_sheet_110 111 rfl ?_
                          rw [ix24]
                          refine z_iconst F dX10_sheet_111 0 (by decide) 112 rfl ?_
                          refine z_iast F dX10_sheet_112 rfl (vp_in_nI (by omega) (by decide)) 113 rfl ?_
                          rw [nI_clamp (by omega), zr_s]
                          refine z_iinc F dX10_sheet_113 4 rfl 1 (by decide) [(0, _), (1, _), (2, _), (3, _), (4, _)] rfl (by decide) 116 rfl ?_
                          refine z_goto F dX10_sheet_116 93 (by decide) ?_
                          rw [nI_1]
                          exact ih n2 (k + 1) hn2 (by omega) (by omega)
                    refine z_aload_n F dX10_sheet_68 0 rfl 69 rfl ?_
                    refine z_getR F zc9 dX10_sheet_69 rfl 5 (by decide) (by decide) (.inl m_935) rfl (by decide) 72 rfl ?_
                    refine z_iload_n F dX10_sheet_72 1 rfl 73 rfl ?_
                    refine z_iload_n F dX10_sheet_73 2 rfl 74 rfl ?_
                    refine z_iast F dX10_sheet_74 rfl (vp_in_nI (by omega) (by decide)) 75 rfl ?_
                    rw [nI_clamp q31]
                    refine z_aload_n F dX10_sheet_75 0 rfl 76 rfl ?_
                    refine z_getR F zc9 dX10_sheet_76 rfl 6 (by decide) (by decide) (.inl m_936) rfl (by decide) 79 rfl ?_
                    refine z_iload_n F dX10_sheet_79 1 rfl 80 rfl ?_
                    refine z_iload_n F dX10_sheet_80 2 rfl 81 rfl ?_
                    refine z_if_ne F dX10_sheet_81 88 (by decide) 84 rfl (fun h81 => ?_) (fun h81 => ?_)
                    · skip
                      refine z_iload_n F dX10_sheet_88 3 rfl 89 rfl ?_
                      refine z_iast F dX10_sheet_89 rfl (vp_in_nI (by omega) (by decide)) 90 rfl ?_
                      rw [nI_clamp q31]
                      refine z_iconst F dX10_sheet_90 0 (by decide) 91 rfl ?_
                      refine z_istore F dX10_sheet_91 [(0, _), (1, _), (2, _), (3, _), (4, _)] rfl (by decide) 93 rfl ?_
                      have L := loop93 25 n 0 ((if_neg h81).symm) (by omega) (by omega)
                      have ez : z_up (z_u2 (z_u2 σ 5 q b) 6 q n) 7 (zrF (σ 7) (24 * q) 0) = z_u2 (z_u2 σ 5 q b) 6 q n := zr_0
                      rw [ez] at L
                      exact L
                    · skip
                      refine z_iconst F dX10_sheet_84 0 (by decide) 85 rfl ?_
                      refine z_goto F dX10_sheet_85 89 (by decide) ?_
                      refine z_iast F dX10_sheet_89 rfl (vp_in_nI (by omega) (by decide)) 90 rfl ?_
                      rw [nI_clamp q31]
                      refine z_iconst F dX10_sheet_90 0 (by decide) 91 rfl ?_
                      refine z_istore F dX10_sheet_91 [(0, _), (1, _), (2, _), (3, _), (4, _)] rfl (by decide) 93 rfl ?_
                      have L := loop93 25 0 0 ((if_pos h81).symm) (by omega) (by omega)
                      have ez : z_up (z_u2 (z_u2 σ 5 q b) 6 q 0) 7 (zrF (σ 7) (24 * q) 0) = z_u2 (z_u2 σ 5 q b) 6 q 0 := zr_0
                      rw [ez] at L
                      exact L
                  · skip
                    refine z_aload_n F dX10_sheet_61 0 rfl 62 rfl ?_
                    refine z_ldc F dX10_sheet_62 m_1001 64 rfl ?_
                    rw [lo1]
                    refine z_callVi F dX10_sheet_64 m_1002 iX10_error jX10_error rfl zc9 rfl (kX10_error σ (k := 1) (by decide) (by decide)) rfl (by decide) (Nat.le_of_ble_eq_true rfl) 67 rfl (fun r64 s64 c64 => ?_)
                    refine z_ri F dX10_sheet_67 ?_
                    obtain ⟨rfl, rfl⟩ := c64
                    exact finM (by
                      unfold aSheet
                      (repeat' split) <;> first | rfl | contradiction | (exfalso; simp only [Int32.lt_iff_toInt_lt, Int32.le_iff_toInt_le, ← Int32.toInt_inj, Int32.reduceToInt] at *; omega)) MO.rf
              · skip
                refine z_aload_n F dX10_sheet_44 0 rfl 45 rfl ?_
                refine z_ldc F dX10_sheet_45 m_1082 47 rfl ?_
                rw [lo3]
                refine z_callVi F dX10_sheet_47 m_1002 iX10_error jX10_error rfl zc9 rfl (kX10_error σ (k := 3) (by decide) (by decide)) rfl (by decide) (Nat.le_of_ble_eq_true rfl) 50 rfl (fun r47 s47 c47 => ?_)
                refine z_ri F dX10_sheet_50 ?_
                obtain ⟨rfl, rfl⟩ := c47
                exact finM (by
                  unfold aSheet
                  (repeat' split) <;> first | rfl | contradiction | (exfalso; simp only [Int32.lt_iff_toInt_lt, Int32.le_iff_toInt_le, ← Int32.toInt_inj, Int32.reduceToInt] at *; omega)) MO.rf
          · skip
            refine z_aload_n F dX10_sheet_29 0 rfl 30 rfl ?_
            refine z_ldc F dX10_sheet_30 m_1001 32 rfl ?_
            rw [lo1]
            refine z_callVi F dX10_sheet_32 m_1002 iX10_error jX10_error rfl zc9 rfl (kX10_error σ (k := 1) (by decide) (by decide)) rfl (by decide) (Nat.le_of_ble_eq_true rfl) 35 rfl (fun r32 s32 c32 => ?_)
            refine z_ri F dX10_sheet_35 ?_
            obtain ⟨rfl, rfl⟩ := c32
            exact finM (by
              unfold aSheet
              (repeat' split) <;> first | rfl | contradiction | (exfalso; simp only [Int32.lt_iff_toInt_lt, Int32.le_iff_toInt_le, ← Int32.toInt_inj, Int32.reduceToInt] at *; omega)) MO.rf
set_option maxHeartbeats 400000 in
set_option maxRecDepth 10000 in
theorem kX10_notThere {l : Launch} {E : z_E} (σ : z_M) (s : Int32) : z_C l E shM 2 yX10_notThere cX10_notThere 2 (some FieldType.int) [.ref (z_ad E 0), .int s] σ (z_Pp (ntS σ s) σ) := by
  refine z_intro iX10_notThere (Nat.le_of_ble_eq_true rfl) (fun K F => ?_)
  refine z_iload_n F dX10_notThere_0 1 rfl 1 rfl ?_
  refine z_callSp F dX10_notThere_1 m_1273 iX10_isSheet m_1274 rfl (kX10_isSheet σ _) rfl (by decide) (Nat.le_of_ble_eq_true rfl) 4 rfl ?_
  refine z_if_ne F dX10_notThere_4 12 (by decide) 7 rfl (fun h4 => ?_) (fun h4 => ?_)
  · skip
    have h4 := bI1.mp h4
    obtain ⟨q, hq4, rfl⟩ : ∃ q, q < 4 ∧ s = nI q := isP_of (n := 4) (s_lt4.mp h4) (by decide)
    have q31 : q < 2 ^ 31 := by omega
    refine z_aload_n F dX10_notThere_12 0 rfl 13 rfl ?_
    refine z_getR F zc9 dX10_notThere_13 rfl 5 (by decide) (by decide) (.inl m_935) rfl (by decide) 16 rfl ?_
    refine z_iload_n F dX10_notThere_16 1 rfl 17 rfl ?_
    refine z_iald F dX10_notThere_17 rfl (vp_in_nI (by omega) (by decide)) 18 rfl ?_
    rw [nI_clamp q31]
    refine z_if_ne F dX10_notThere_18 26 (by decide) 21 rfl (fun h18 => ?_) (fun h18 => ?_)
    · skip
      refine z_iconst F dX10_notThere_26 0 (by decide) 27 rfl ?_
      refine z_rp F dX10_notThere_27 ?_ rfl
      unfold ntS
      rw [if_pos h4, nI_clamp q31, if_neg h18]
    · skip
      refine z_ldc F dX10_notThere_21 m_1091 23 rfl ?_
      refine z_goto F dX10_notThere_23 27 (by decide) ?_
      refine z_rp F dX10_notThere_27 ?_ rfl
      unfold ntS
      rw [if_pos h4, nI_clamp q31, if_pos h18]; rfl
  · skip
    have h4 := bI0.mp h4
    refine z_ldc F dX10_notThere_7 m_1001 9 rfl ?_
    refine z_goto F dX10_notThere_9 27 (by decide) ?_
    refine z_rp F dX10_notThere_27 ?_ rfl
    unfold ntS
    rw [if_neg h4]; rfl
set_option maxHeartbeats 1000000 in
set_option maxRecDepth 10000 in
theorem kX10_put {l : Launch} {E : z_E} (σ : z_M) {τ0 : z_M} (hR : Rel τ0 σ) (s : Int32) (ii : Int32) (v : Int32)  : z_C l E shM 3 yX10_put cX10_put 5 (some FieldType.int) [.ref (z_ad E 0), .int s, .int ii, .int v] σ (z_Pi (fun rv μ' => rv = (aPut σ s ii v).1 ∧ MO (aPut σ s ii v).2 μ')) := by
  refine z_intro iX10_put (Nat.le_of_ble_eq_true rfl) (fun K F => ?_)
  have hn : σ 1 2 = nI (nP (σ 1)) := hR.2.1.1.1
  have h8 : nP (σ 1) ≤ 8 := hR.n8
  have hN : σ 1 2 = nI (nP (σ 1)) ∧ nP (σ 1) ≤ 8 := ⟨hn, h8⟩
  refine z_aload_n F dX10_put_0 0 rfl 1 rfl ?_
  refine z_iload_n F dX10_put_1 1 rfl 2 rfl ?_
  refine z_callVp F dX10_put_2 m_1341 iX10_notThere jX10_notThere rfl zc9 rfl (kX10_notThere σ _) rfl (by decide) (Nat.le_of_ble_eq_true rfl) 5 rfl ?_
  refine z_istore F dX10_put_5 [(0, _), (1, _), (2, _), (3, _), (4, _)] rfl (by decide) 7 rfl ?_
  refine z_iload F dX10_put_7 4 rfl 9 rfl ?_
  refine z_if_ne F dX10_put_9 33 (by decide) 12 rfl (fun h9 => ?_) (fun h9 => ?_)
  · skip
    refine z_iload F dX10_put_33 4 rfl 35 rfl ?_
    refine z_istore F dX10_put_35 [(0, _), (1, _), (2, _), (3, _), (4, _)] rfl (by decide) 37 rfl ?_
    refine z_iload F dX10_put_37 4 rfl 39 rfl ?_
    refine z_if_eq F dX10_put_39 49 (by decide) 42 rfl (fun h39 => ?_) (fun h39 => ?_)
    · skip
      exact absurd h39 h9
    · skip
      refine z_aload_n F dX10_put_42 0 rfl 43 rfl ?_
      refine z_iload F dX10_put_43 4 rfl 45 rfl ?_
      obtain ⟨k0, k1, k6, ek, ea⟩ := nt_er h9
      rw [ek]
      refine z_callVi F dX10_put_45 m_1002 iX10_error jX10_error rfl zc9 rfl (kX10_error σ (k := k0) k1 k6) rfl (by decide) (Nat.le_of_ble_eq_true rfl) 48 rfl (fun r45 s45 c45 => ?_)
      refine z_ri F dX10_put_48 ?_
      obtain ⟨rfl, rfl⟩ := c45
      exact finM (by unfold aPut; exact ea _) MO.rf
  · skip
    obtain ⟨q, hq4, rfl, hs4, hb0⟩ := nt_ok h9
    have q31 : q < 2 ^ 31 := by omega
    obtain ⟨⟨c, hc24, ec⟩, hbb⟩ := hR.shq q hq4
    refine z_iload_n F dX10_put_12 2 rfl 13 rfl ?_
    refine z_iconst F dX10_put_13 0 (by decide) 14 rfl ?_
    refine z_aload_n F dX10_put_14 0 rfl 15 rfl ?_
    refine z_getR F zc9 dX10_put_15 rfl 6 (by decide) (by decide) (.inl m_936) rfl (by decide) 18 rfl ?_
    refine z_iload_n F dX10_put_18 1 rfl 19 rfl ?_
    refine z_iald F dX10_put_19 rfl (vp_in_nI (by omega) (by decide)) 20 rfl ?_
    rw [nI_clamp q31, ec]
    refine z_iconst F dX10_put_20 1 (by decide) 21 rfl ?_
    refine z_isub F dX10_put_21 22 rfl ?_
    refine z_callSp F dX10_put_22 m_998 iX10_in m_999 rfl (kX10_in σ _ _ _) rfl (by decide) (Nat.le_of_ble_eq_true rfl) 25 rfl ?_
    refine z_if_ne F dX10_put_25 33 (by decide) 28 rfl (fun h25 => ?_) (fun h25 => ?_)
    · skip
      have h25 := bI1.mp h25
      refine z_iload F dX10_put_33 4 rfl 35 rfl ?_
      refine z_istore F dX10_put_35 [(0, _), (1, _), (2, _), (3, _), (4, _)] rfl (by decide) 37 rfl ?_
      refine z_iload F dX10_put_37 4 rfl 39 rfl ?_
      refine z_if_eq F dX10_put_39 49 (by decide) 42 rfl (fun h39 => ?_) (fun h39 => ?_)
      · skip
        have h25 : 0 ≤ ii ∧ ii < nI c := ⟨h25.1, (le_m1g rfl (by omega)).mp h25.2⟩
        obtain ⟨i, hi, rfl⟩ := isP_of h25 (by omega)
        have i31 : i < 2 ^ 31 := by omega
        refine z_aload_n F dX10_put_49 0 rfl 50 rfl ?_
        refine z_getR F zc9 dX10_put_50 rfl 7 (by decide) (by decide) (.inl m_937) rfl (by decide) 53 rfl ?_
        refine z_bipush F dX10_put_53 24 (by decide) 55 rfl ?_
        refine z_iload_n F dX10_put_55 1 rfl 56 rfl ?_
        refine z_imul F dX10_put_56 57 rfl ?_
        refine z_iload_n F dX10_put_57 2 rfl 58 rfl ?_
        refine z_iadd F dX10_put_58 59 rfl ?_
        rw [ix24]
        refine z_aload_n F dX10_put_59 0 rfl 60 rfl ?_
        refine z_getR F zc9 dX10_put_60 rfl 5 (by decide) (by decide) (.inl m_935) rfl (by decide) 63 rfl ?_
        refine z_iload_n F dX10_put_63 1 rfl 64 rfl ?_
        refine z_iald F dX10_put_64 rfl (vp_in_nI (by omega) (by decide)) 65 rfl ?_
        rw [nI_clamp q31]
        refine z_bipush F dX10_put_65 8 (by decide) 67 rfl ?_
        refine z_icmp_ne F dX10_put_67 75 (by decide) 70 rfl (fun h67 => ?_) (fun h67 => ?_)
        · skip
          refine z_aload_n F dX10_put_75 0 rfl 76 rfl ?_
          refine z_getR F zc9 dX10_put_76 rfl 5 (by decide) (by decide) (.inl m_935) rfl (by decide) 79 rfl ?_
          refine z_iload_n F dX10_put_79 1 rfl 80 rfl ?_
          refine z_iald F dX10_put_80 rfl (vp_in_nI (by omega) (by decide)) 81 rfl ?_
          rw [nI_clamp q31]
          refine z_bipush F dX10_put_81 16 (by decide) 83 rfl ?_
          refine z_icmp_ne F dX10_put_83 91 (by decide) 86 rfl (fun h83 => ?_) (fun h83 => ?_)
          · skip
            refine z_iload_n F dX10_put_91 3 rfl 92 rfl ?_
            refine z_iast F dX10_put_92 rfl (vp_in_nI (by omega) (by decide)) 93 rfl ?_
            rw [nI_clamp (by omega)]
            refine z_iconst F dX10_put_93 1 (by decide) 94 rfl ?_
            refine z_ri F dX10_put_94 ?_
            refine finM (m := z_u2 σ 7 (24 * q + i) (cvS (σ 5 q) v)) ?_ ?_
            · unfold aPut
              rw [if_pos hs4, nI_clamp q31, if_neg hb0, ec, if_pos h25, nI_clamp (by omega)]
            · unfold cvS
              rw [if_neg h67, if_neg h83]
              exact MO.rf
          · skip
            refine z_iload_n F dX10_put_86 3 rfl 87 rfl ?_
            refine z_i2s F dX10_put_87 88 rfl ?_
            refine z_goto F dX10_put_88 92 (by decide) ?_
            refine z_iast F dX10_put_92 rfl (vp_in_nI (by omega) (by decide)) 93 rfl ?_
            rw [nI_clamp (by omega)]
            refine z_iconst F dX10_put_93 1 (by decide) 94 rfl ?_
            refine z_ri F dX10_put_94 ?_
            refine finM (m := z_u2 σ 7 (24 * q + i) (cvS (σ 5 q) v)) ?_ ?_
            · unfold aPut
              rw [if_pos hs4, nI_clamp q31, if_neg hb0, ec, if_pos h25, nI_clamp (by omega)]
            · unfold cvS
              rw [if_neg h67, if_pos h83]
              exact MO.rf
        · skip
          refine z_iload_n F dX10_put_70 3 rfl 71 rfl ?_
          refine z_i2b F dX10_put_71 72 rfl ?_
          refine z_goto F dX10_put_72 92 (by decide) ?_
          refine z_iast F dX10_put_92 rfl (vp_in_nI (by omega) (by decide)) 93 rfl ?_
          rw [nI_clamp (by omega)]
          refine z_iconst F dX10_put_93 1 (by decide) 94 rfl ?_
          refine z_ri F dX10_put_94 ?_
          refine finM (m := z_u2 σ 7 (24 * q + i) (cvS (σ 5 q) v)) ?_ ?_
          · unfold aPut
            rw [if_pos hs4, nI_clamp q31, if_neg hb0, ec, if_pos h25, nI_clamp (by omega)]
          · unfold cvS
            rw [if_pos h67]
            exact MO.rf
      · skip
        exact absurd h9 h39
    · skip
      have h25 := bI0.mp h25
      refine z_ldc F dX10_put_28 m_1001 30 rfl ?_
      refine z_goto F dX10_put_30 35 (by decide) ?_
      refine z_istore F dX10_put_35 [(0, _), (1, _), (2, _), (3, _), (4, _)] rfl (by decide) 37 rfl ?_
      refine z_iload F dX10_put_37 4 rfl 39 rfl ?_
      refine z_if_eq F dX10_put_39 49 (by decide) 42 rfl (fun h39 => ?_) (fun h39 => ?_)
      · skip
        exact absurd h39 (by decide)
      · skip
        refine z_aload_n F dX10_put_42 0 rfl 43 rfl ?_
        refine z_iload F dX10_put_43 4 rfl 45 rfl ?_
        obtain ⟨k0, k1, k6, ek⟩ : ∃ k, 1 ≤ k ∧ k ≤ 6 ∧ (-1000000001 : Int32) = LO k := ⟨1, by decide, by decide, lo1⟩
        rw [ek]
        have ek1 : k0 = 1 := by
          rcases (show k0 = 1 ∨ k0 = 2 ∨ k0 = 3 ∨ k0 = 4 ∨ k0 = 5 ∨ k0 = 6 by omega) with z | z | z | z | z | z <;> first | exact z | (rw [z] at ek; exact absurd ek (by decide))
        refine z_callVi F dX10_put_45 m_1002 iX10_error jX10_error rfl zc9 rfl (kX10_error σ (k := k0) k1 k6) rfl (by decide) (Nat.le_of_ble_eq_true rfl) 48 rfl (fun r45 s45 c45 => ?_)
        refine z_ri F dX10_put_48 ?_
        subst ek1
        obtain ⟨rfl, rfl⟩ := c45
        exact finM (by unfold aPut; rw [if_pos hs4, nI_clamp q31, if_neg hb0, ec, if_neg (fun z => h25 ⟨z.1, (le_m1g rfl (by omega)).mpr z.2⟩)]) MO.rf
