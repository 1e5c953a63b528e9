/-! static methods of the class; what KINDS let down and look through -/
def aboveS (x : Int32) : Int32 := if 0 ≤ x ∧ x < 7 then z_aboveL.getD x.toNatClampNeg 0 else -1
def underF : Nat → Int32 → Int32 → Bool
  | 0, _, _ => false
  | f + 1, x, u => if x < 0 then false else if x = u then true else underF f (aboveS x) u
def judS (s : Int32) : Int32 := if s - s / 2 * 2 = 0 then s else s / 3
def letS (k m s : Int32) : Int32 := if k = 1 then s / 2 else if k = 2 then judS s else if k = 3 then s * 2 else if k = 4 then s / 2 + m else if k = 5 then (if 4 < judS s then 4 else judS s) else if k = 6 then (if 2 < s then 40 else s + 1) else s
def eyeS (k m near y : Int32) : Int32 := if k = 1 then 2 + near else if k = 2 then 5 else if k = 3 then 1 else if k = 4 then 2 + near + m else if k = 5 then (if y - y / 2 * 2 = 0 then 5 + m else 5) else if k = 6 then m else 2
def twoS (g a b : Int32) : Int32 := if g = 43 then a + b else if g = 45 then a - b else if g = 42 then a * b else if g = 47 then (if b = 0 then 0 else a / b) else if g = 37 then (if b = 0 then 0 else a - a / b * b) else if g = 60 then bI (a < b) else if g = 61 then bI (a = b) else if g = 62 then bI (b < a) else if g = 38 then bI (¬ a = 0 ∧ ¬ b = 0) else bI (¬ a = 0 ∨ ¬ b = 0)
def lvS (b : Int32) : Int32 := if b = 124 then 0 else if b = 38 then 1 else if b = 60 then 2 else if b = 61 then 2 else if b = 62 then 2 else if b = 43 then 3 else if b = 45 then 3 else if b = 42 then 4 else if b = 47 then 4 else if b = 37 then 4 else -1
set_option maxHeartbeats 400000 in
set_option maxRecDepth 10000 in
theorem kX2_isKind {l : Launch} {E : z_E} (σ : z_M) {S : z_Sh} (x : Int32) : z_C l E S 0 yX2_isKind cX2_isKind 1 (some FieldType.boolean) [.int x] σ (z_Pp (bI (0 ≤ x ∧ x < 7)) σ) := by
  refine z_intro iX2_isKind (Nat.le_of_ble_eq_true rfl) (fun K F => ?_)
  refine z_iload_n F dX2_isKind_0 0 rfl 1 rfl ?_
  refine z_if_lt F dX2_isKind_1 16 (by decide) 4 rfl (fun h1 => ?_) (fun h1 => ?_)
  · skip
    refine z_iconst F dX2_isKind_16 0 (by decide) 17 rfl ?_
    refine z_rpz F dX2_isKind_17 (by first | rfl | exact bIn) ?_ rfl
    first | (refine (bI_t ?_).symm; simp only [Int32.lt_iff_toInt_lt, Int32.le_iff_toInt_le, ← Int32.toInt_inj, Int32.reduceToInt] at *; omega) | (refine (bI_f ?_).symm; simp only [Int32.lt_iff_toInt_lt, Int32.le_iff_toInt_le, ← Int32.toInt_inj, Int32.reduceToInt] at *; omega)
  · skip
    refine z_iload_n F dX2_isKind_4 0 rfl 5 rfl ?_
    refine z_getsA F dX2_isKind_5 m_421 8 rfl ?_
    refine z_tlenA F dX2_isKind_8 9 rfl ?_
    refine z_icmp_ge F dX2_isKind_9 16 (by decide) 12 rfl (fun h9 => ?_) (fun h9 => ?_)
    · skip
      refine z_iconst F dX2_isKind_16 0 (by decide) 17 rfl ?_
      refine z_rpz F dX2_isKind_17 (by first | rfl | exact bIn) ?_ rfl
      first | (refine (bI_t ?_).symm; simp only [Int32.lt_iff_toInt_lt, Int32.le_iff_toInt_le, ← Int32.toInt_inj, Int32.reduceToInt] at *; omega) | (refine (bI_f ?_).symm; simp only [Int32.lt_iff_toInt_lt, Int32.le_iff_toInt_le, ← Int32.toInt_inj, Int32.reduceToInt] at *; omega)
    · skip
      refine z_iconst F dX2_isKind_12 1 (by decide) 13 rfl ?_
      refine z_goto F dX2_isKind_13 17 (by decide) ?_
      refine z_rpz F dX2_isKind_17 (by first | rfl | exact bIn) ?_ rfl
      first | (refine (bI_t ?_).symm; simp only [Int32.lt_iff_toInt_lt, Int32.le_iff_toInt_le, ← Int32.toInt_inj, Int32.reduceToInt] at *; omega) | (refine (bI_f ?_).symm; simp only [Int32.lt_iff_toInt_lt, Int32.le_iff_toInt_le, ← Int32.toInt_inj, Int32.reduceToInt] at *; omega)
set_option maxHeartbeats 400000 in
set_option maxRecDepth 10000 in
theorem kX2_above {l : Launch} {E : z_E} (σ : z_M) {S : z_Sh} (x : Int32) : z_C l E S 1 yX2_above cX2_above 1 (some FieldType.int) [.int x] σ (z_Pp (aboveS x) σ) := by
  refine z_intro iX2_above (Nat.le_of_ble_eq_true rfl) (fun K F => ?_)
  refine z_iload_n F dX2_above_0 0 rfl 1 rfl ?_
  refine z_callSp F dX2_above_1 m_429 iX2_isKind m_419 rfl (kX2_isKind σ x) rfl (by decide) (Nat.le_of_ble_eq_true rfl) 4 rfl ?_
  refine z_if_eq F dX2_above_4 15 (by decide) 7 rfl (fun h4 => ?_) (fun h4 => ?_)
  · skip
    have h4 := bI0.mp h4
    refine z_iconst F dX2_above_15 (-1) (by decide) 16 rfl ?_
    refine z_rp F dX2_above_16 ?_ rfl
    unfold aboveS; first | exact (if_pos h4).symm | exact (if_neg h4).symm
  · skip
    have h4 := bI1.mp h4
    refine z_getsA F dX2_above_7 m_421 10 rfl ?_
    refine z_iload_n F dX2_above_10 0 rfl 11 rfl ?_
    refine z_tabA F dX2_above_11 (by exact in_of (n := 7) (i_nlt.mpr h4.1) (i_nle.mpr h4.2) (Nat.le_refl _) (by decide)) 12 rfl ?_
    refine z_goto F dX2_above_12 16 (by decide) ?_
    refine z_rp F dX2_above_16 ?_ rfl
    unfold aboveS; first | exact (if_pos h4).symm | exact (if_neg h4).symm
set_option maxHeartbeats 400000 in
set_option maxRecDepth 10000 in
theorem kX2_isUnder {l : Launch} {E : z_E} (σ : z_M) {S : z_Sh} (x u : Int32) : z_C l E S 2 yX2_isUnder cX2_isUnder 4 (some FieldType.boolean) [.int x, .int u] σ (z_Pp (bI (underF 7 x u = true)) σ) := by
  refine z_intro iX2_isUnder (Nat.le_of_ble_eq_true rfl) (fun K F => ?_)
  have loop4 : ∀ (f : Nat) (i : Nat) (y : Int32) (_ : 7 < i + f) (_ : i ≤ 7) (_ : bI (underF (7 - i) y u = true) = bI (underF 7 x u = true)), z_X l K E S 2 4 (z_Pp (bI (underF 7 x u = true)) σ) 4 [(0, .int x), (1, .int u), (2, .int y), (3, .int (nI i))] [] σ := by
    intro f
    induction f with
    | zero =>
      intro i y hi hi7 hv
      omega
    | succ f ih =>
      intro i y hi hi7 hv
      refine z_iload_n F dX2_isUnder_4 3 rfl 5 rfl ?_
      refine z_getsA F dX2_isUnder_5 m_421 8 rfl ?_
      refine z_tlenA F dX2_isUnder_8 9 rfl ?_
      refine z_icmp_ge F dX2_isUnder_9 34 (by decide) 12 rfl (fun h9 => ?_) (fun h9 => ?_)
      · skip
        refine z_iconst F dX2_isUnder_34 0 (by decide) 35 rfl ?_
        refine z_rpz F dX2_isUnder_35 (by first | rfl | exact bIn) ?_ rfl
        rw [← hv]; refine (bI_f ?_).symm
        rcases Nat.lt_or_ge i 7 with q | q
        · rw [show 7 - i = (7 - i - 1) + 1 by omega]
          first | (simp [underF, h13]; done) | exact absurd h9 (nI_ge q (by decide))
        · rw [show 7 - i = 0 by omega]; simp [underF]
      · skip
        refine z_iload_n F dX2_isUnder_12 2 rfl 13 rfl ?_
        refine z_if_lt F dX2_isUnder_13 34 (by decide) 16 rfl (fun h13 => ?_) (fun h13 => ?_)
        · skip
          refine z_iconst F dX2_isUnder_34 0 (by decide) 35 rfl ?_
          refine z_rpz F dX2_isUnder_35 (by first | rfl | exact bIn) ?_ rfl
          rw [← hv]; refine (bI_f ?_).symm
          rcases Nat.lt_or_ge i 7 with q | q
          · rw [show 7 - i = (7 - i - 1) + 1 by omega]
            first | (simp [underF, h13]; done) | exact absurd h9 (nI_ge q (by decide))
          · rw [show 7 - i = 0 by omega]; simp [underF]
        · skip
          refine z_iload_n F dX2_isUnder_16 2 rfl 17 rfl ?_
          refine z_iload_n F dX2_isUnder_17 1 rfl 18 rfl ?_
          refine z_icmp_ne F dX2_isUnder_18 23 (by decide) 21 rfl (fun h18 => ?_) (fun h18 => ?_)
          · skip
            refine z_iload_n F dX2_isUnder_23 2 rfl 24 rfl ?_
            refine z_callSp F dX2_isUnder_24 m_426 iX2_above m_427 rfl (kX2_above σ _) rfl (by decide) (Nat.le_of_ble_eq_true rfl) 27 rfl ?_
            refine z_istore_n F dX2_isUnder_27 [(0, _), (1, _), (2, _), (3, _)] rfl (by decide) 28 rfl ?_
            refine z_iinc F dX2_isUnder_28 3 rfl 1 (by decide) [(0, _), (1, _), (2, _), (3, _)] rfl (by decide) 31 rfl ?_
            refine z_goto F dX2_isUnder_31 4 (by decide) ?_
            have hlt : i < 7 := by
              rcases Nat.lt_or_ge i 7 with q | q
              · exact q
              · exact absurd (nI_le q (by omega)) h9
            rw [nI_1]
            exact ih (i + 1) (aboveS y) (by omega) (by omega) (by rw [← hv, show 7 - i = (7 - (i + 1)) + 1 by omega]; simp [underF, h13, h18])
          · skip
            refine z_iconst F dX2_isUnder_21 1 (by decide) 22 rfl ?_
            refine z_rpz F dX2_isUnder_22 (by first | rfl | exact bIn) ?_ rfl
            have hlt : i < 7 := by
              rcases Nat.lt_or_ge i 7 with q | q
              · exact q
              · exact absurd (nI_le q (by omega)) h9
            rw [← hv]; exact (bI_t (by rw [show 7 - i = (7 - i - 1) + 1 by omega]; subst h18; simp [underF, h13])).symm
  refine z_iload_n F dX2_isUnder_0 0 rfl 1 rfl ?_
  refine z_istore_n F dX2_isUnder_1 [(0, _), (1, _), (2, _)] rfl (by decide) 2 rfl ?_
  refine z_iconst F dX2_isUnder_2 0 (by decide) 3 rfl ?_
  refine z_istore_n F dX2_isUnder_3 [(0, _), (1, _), (2, _), (3, _)] rfl (by decide) 4 rfl ?_
  exact loop4 8 0 x (by omega) (by omega) rfl
set_option maxHeartbeats 400000 in
set_option maxRecDepth 10000 in
theorem kX2_judged {l : Launch} {E : z_E} (σ : z_M) {S : z_Sh} (s : Int32) : z_C l E S 0 yX2_judged cX2_judged 1 (some FieldType.int) [.int s] σ (z_Pp (judS s) σ) := by
  refine z_intro iX2_judged (Nat.le_of_ble_eq_true rfl) (fun K F => ?_)
  refine z_iload_n F dX2_judged_0 0 rfl 1 rfl ?_
  refine z_iconst F dX2_judged_1 2 (by decide) 2 rfl ?_
  refine z_irem F dX2_judged_2 (by decide) 3 rfl ?_
  refine z_if_ne F dX2_judged_3 10 (by decide) 6 rfl (fun h3 => ?_) (fun h3 => ?_)
  · skip
    refine z_iload_n F dX2_judged_10 0 rfl 11 rfl ?_
    refine z_iconst F dX2_judged_11 3 (by decide) 12 rfl ?_
    refine z_idiv F dX2_judged_12 (by decide) 13 rfl ?_
    refine z_rp F dX2_judged_13 ?_ rfl
    unfold judS
    (repeat' split) <;> first | rfl | (exfalso; simp only [Int32.lt_iff_toInt_lt, Int32.le_iff_toInt_le, ← Int32.toInt_inj, Int32.reduceToInt] at *; omega)
  · skip
    refine z_iload_n F dX2_judged_6 0 rfl 7 rfl ?_
    refine z_goto F dX2_judged_7 13 (by decide) ?_
    refine z_rp F dX2_judged_13 ?_ rfl
    unfold judS
    (repeat' split) <;> first | rfl | (exfalso; simp only [Int32.lt_iff_toInt_lt, Int32.le_iff_toInt_le, ← Int32.toInt_inj, Int32.reduceToInt] at *; omega)
set_option maxHeartbeats 400000 in
set_option maxRecDepth 10000 in
theorem kX2_letDown {l : Launch} {E : z_E} (σ : z_M) {S : z_Sh} (k m s : Int32) : z_C l E S 1 yX2_letDown cX2_letDown 3 (some FieldType.int) [.int k, .int m, .int s] σ (z_Pp (letS k m s) σ) := by
  refine z_intro iX2_letDown (Nat.le_of_ble_eq_true rfl) (fun K F => ?_)
  refine z_iload_n F dX2_letDown_0 0 rfl 1 rfl ?_
  by_cases e1_1 : k = 1
  · skip
    refine z_tableIn F dX2_letDown_1 (by rw [e1_1]; decide) (by rw [e1_1]; decide) (by rw [e1_1]; rfl) 40 (by decide) ?_
    refine z_iload_n F dX2_letDown_40 2 rfl 41 rfl ?_
    refine z_iconst F dX2_letDown_41 2 (by decide) 42 rfl ?_
    refine z_idiv F dX2_letDown_42 (by decide) 43 rfl ?_
    refine z_rp F dX2_letDown_43 ?_ rfl
    unfold letS
    (repeat' split) <;> first | rfl | (exfalso; simp only [Int32.lt_iff_toInt_lt, Int32.le_iff_toInt_le, ← Int32.toInt_inj, Int32.reduceToInt] at *; omega)
  by_cases e1_2 : k = 2
  · skip
    refine z_tableIn F dX2_letDown_1 (by rw [e1_2]; decide) (by rw [e1_2]; decide) (by rw [e1_2]; rfl) 44 (by decide) ?_
    refine z_iload_n F dX2_letDown_44 2 rfl 45 rfl ?_
    refine z_callSp F dX2_letDown_45 m_476 iX2_judged m_477 rfl (kX2_judged σ s) rfl (by decide) (Nat.le_of_ble_eq_true rfl) 48 rfl ?_
    refine z_rp F dX2_letDown_48 ?_ rfl
    unfold letS
    (repeat' split) <;> first | rfl | (exfalso; simp only [Int32.lt_iff_toInt_lt, Int32.le_iff_toInt_le, ← Int32.toInt_inj, Int32.reduceToInt] at *; omega)
  by_cases e1_3 : k = 3
  · skip
    refine z_tableIn F dX2_letDown_1 (by rw [e1_3]; decide) (by rw [e1_3]; decide) (by rw [e1_3]; rfl) 49 (by decide) ?_
    refine z_iload_n F dX2_letDown_49 2 rfl 50 rfl ?_
    refine z_iconst F dX2_letDown_50 2 (by decide) 51 rfl ?_
    refine z_imul F dX2_letDown_51 52 rfl ?_
    refine z_rp F dX2_letDown_52 ?_ rfl
    unfold letS
    (repeat' split) <;> first | rfl | (exfalso; simp only [Int32.lt_iff_toInt_lt, Int32.le_iff_toInt_le, ← Int32.toInt_inj, Int32.reduceToInt] at *; omega)
  by_cases e1_4 : k = 4
  · skip
    refine z_tableIn F dX2_letDown_1 (by rw [e1_4]; decide) (by rw [e1_4]; decide) (by rw [e1_4]; rfl) 53 (by decide) ?_
    refine z_iload_n F dX2_letDown_53 2 rfl 54 rfl ?_
    refine z_iconst F dX2_letDown_54 2 (by decide) 55 rfl ?_
    refine z_idiv F dX2_letDown_55 (by decide) 56 rfl ?_
    refine z_iload_n F dX2_letDown_56 1 rfl 57 rfl ?_
    refine z_iadd F dX2_letDown_57 58 rfl ?_
    refine z_rp F dX2_letDown_58 ?_ rfl
    unfold letS
    (repeat' split) <;> first | rfl | (exfalso; simp only [Int32.lt_iff_toInt_lt, Int32.le_iff_toInt_le, ← Int32.toInt_inj, Int32.reduceToInt] at *; omega)
  by_cases e1_5 : k = 5
  · skip
    refine z_tableIn F dX2_letDown_1 (by rw [e1_5]; decide) (by rw [e1_5]; decide) (by rw [e1_5]; rfl) 59 (by decide) ?_
    refine z_iload_n F dX2_letDown_59 2 rfl 60 rfl ?_
    refine z_callSp F dX2_letDown_60 m_476 iX2_judged m_477 rfl (kX2_judged σ s) rfl (by decide) (Nat.le_of_ble_eq_true rfl) 63 rfl ?_
    refine z_iconst F dX2_letDown_63 4 (by decide) 64 rfl ?_
    refine z_min F dX2_letDown_64 m_479 m_364 m_76 m_365 (by decide) (Nat.le_of_ble_eq_true rfl) 67 rfl ?_
    refine z_rp F dX2_letDown_67 ?_ rfl
    unfold letS
    (repeat' split) <;> first | rfl | (exfalso; simp only [Int32.lt_iff_toInt_lt, Int32.le_iff_toInt_le, ← Int32.toInt_inj, Int32.reduceToInt] at *; omega)
  by_cases e1_6 : k = 6
  · skip
    refine z_tableIn F dX2_letDown_1 (by rw [e1_6]; decide) (by rw [e1_6]; decide) (by rw [e1_6]; rfl) 68 (by decide) ?_
    refine z_iload_n F dX2_letDown_68 2 rfl 69 rfl ?_
    refine z_iconst F dX2_letDown_69 2 (by decide) 70 rfl ?_
    refine z_icmp_le F dX2_letDown_70 78 (by decide) 73 rfl (fun h70 => ?_) (fun h70 => ?_)
    · skip
      refine z_iload_n F dX2_letDown_78 2 rfl 79 rfl ?_
      refine z_iconst F dX2_letDown_79 1 (by decide) 80 rfl ?_
      refine z_iadd F dX2_letDown_80 81 rfl ?_
      refine z_rp F dX2_letDown_81 ?_ rfl
      unfold letS
      (repeat' split) <;> first | rfl | (exfalso; simp only [Int32.lt_iff_toInt_lt, Int32.le_iff_toInt_le, ← Int32.toInt_inj, Int32.reduceToInt] at *; omega)
    · skip
      refine z_bipush F dX2_letDown_73 40 (by decide) 75 rfl ?_
      refine z_goto F dX2_letDown_75 81 (by decide) ?_
      refine z_rp F dX2_letDown_81 ?_ rfl
      unfold letS
      (repeat' split) <;> first | rfl | (exfalso; simp only [Int32.lt_iff_toInt_lt, Int32.le_iff_toInt_le, ← Int32.toInt_inj, Int32.reduceToInt] at *; omega)
  refine z_tableOut F dX2_letDown_1 (by have t0 := k.toInt; have t1 := lv_neT e1_1 (a := 1) rfl; have t2 := lv_neT e1_2 (a := 2) rfl; have t3 := lv_neT e1_3 (a := 3) rfl; have t4 := lv_neT e1_4 (a := 4) rfl; have t5 := lv_neT e1_5 (a := 5) rfl; have t6 := lv_neT e1_6 (a := 6) rfl; omega) 82 (by decide) ?_
  refine z_iload_n F dX2_letDown_82 2 rfl 83 rfl ?_
  refine z_rp F dX2_letDown_83 ?_ rfl
  unfold letS
  (repeat' split) <;> first | rfl | (exfalso; simp only [Int32.lt_iff_toInt_lt, Int32.le_iff_toInt_le, ← Int32.toInt_inj, Int32.reduceToInt] at *; omega)
set_option maxHeartbeats 400000 in
set_option maxRecDepth 10000 in
theorem kX2_lookThrough {l : Launch} {E : z_E} (σ : z_M) {S : z_Sh} (k m n y : Int32) : z_C l E S 0 yX2_lookThrough cX2_lookThrough 4 (some FieldType.int) [.int k, .int m, .int n, .int y] σ (z_Pp (eyeS k m n y) σ) := by
  refine z_intro iX2_lookThrough (Nat.le_of_ble_eq_true rfl) (fun K F => ?_)
  refine z_iload_n F dX2_lookThrough_0 0 rfl 1 rfl ?_
  by_cases e1_1 : k = 1
  · skip
    refine z_tableIn F dX2_lookThrough_1 (by rw [e1_1]; decide) (by rw [e1_1]; decide) (by rw [e1_1]; rfl) 40 (by decide) ?_
    refine z_iconst F dX2_lookThrough_40 2 (by decide) 41 rfl ?_
    refine z_iload_n F dX2_lookThrough_41 2 rfl 42 rfl ?_
    refine z_iadd F dX2_lookThrough_42 43 rfl ?_
    refine z_rp F dX2_lookThrough_43 ?_ rfl
    unfold eyeS
    (repeat' split) <;> first | rfl | (exfalso; simp only [Int32.lt_iff_toInt_lt, Int32.le_iff_toInt_le, ← Int32.toInt_inj, Int32.reduceToInt] at *; omega)
  by_cases e1_2 : k = 2
  · skip
    refine z_tableIn F dX2_lookThrough_1 (by rw [e1_2]; decide) (by rw [e1_2]; decide) (by rw [e1_2]; rfl) 44 (by decide) ?_
    refine z_iconst F dX2_lookThrough_44 5 (by decide) 45 rfl ?_
    refine z_rp F dX2_lookThrough_45 ?_ rfl
    unfold eyeS
    (repeat' split) <;> first | rfl | (exfalso; simp only [Int32.lt_iff_toInt_lt, Int32.le_iff_toInt_le, ← Int32.toInt_inj, Int32.reduceToInt] at *; omega)
  by_cases e1_3 : k = 3
  · skip
    refine z_tableIn F dX2_lookThrough_1 (by rw [e1_3]; decide) (by rw [e1_3]; decide) (by rw [e1_3]; rfl) 46 (by decide) ?_
    refine z_iconst F dX2_lookThrough_46 1 (by decide) 47 rfl ?_
    refine z_rp F dX2_lookThrough_47 ?_ rfl
    unfold eyeS
    (repeat' split) <;> first | rfl | (exfalso; simp only [Int32.lt_iff_toInt_lt, Int32.le_iff_toInt_le, ← Int32.toInt_inj, Int32.reduceToInt] at *; omega)
  by_cases e1_4 : k = 4
  · skip
    refine z_tableIn F dX2_lookThrough_1 (by rw [e1_4]; decide) (by rw [e1_4]; decide) (by rw [e1_4]; rfl) 48 (by decide) ?_
    refine z_iconst F dX2_lookThrough_48 2 (by decide) 49 rfl ?_
    refine z_iload_n F dX2_lookThrough_49 2 rfl 50 rfl ?_
    refine z_iadd F dX2_lookThrough_50 51 rfl ?_
    refine z_iload_n F dX2_lookThrough_51 1 rfl 52 rfl ?_
    refine z_iadd F dX2_lookThrough_52 53 rfl ?_
    refine z_rp F dX2_lookThrough_53 ?_ rfl
    unfold eyeS
    (repeat' split) <;> first | rfl | (exfalso; simp only [Int32.lt_iff_toInt_lt, Int32.le_iff_toInt_le, ← Int32.toInt_inj, Int32.reduceToInt] at *; omega)
  by_cases e1_5 : k = 5
  · skip
    refine z_tableIn F dX2_lookThrough_1 (by rw [e1_5]; decide) (by rw [e1_5]; decide) (by rw [e1_5]; rfl) 54 (by decide) ?_
    refine z_iconst F dX2_lookThrough_54 5 (by decide) 55 rfl ?_
    refine z_iload_n F dX2_lookThrough_55 3 rfl 56 rfl ?_
    refine z_iconst F dX2_lookThrough_56 2 (by decide) 57 rfl ?_
    refine z_irem F dX2_lookThrough_57 (by decide) 58 rfl ?_
    refine z_if_ne F dX2_lookThrough_58 65 (by decide) 61 rfl (fun h58 => ?_) (fun h58 => ?_)
    · skip
      refine z_iconst F dX2_lookThrough_65 0 (by decide) 66 rfl ?_
      refine z_iadd F dX2_lookThrough_66 67 rfl ?_
      refine z_rp F dX2_lookThrough_67 ?_ rfl
      unfold eyeS
      (repeat' split) <;> first | rfl | (exfalso; simp only [Int32.lt_iff_toInt_lt, Int32.le_iff_toInt_le, ← Int32.toInt_inj, Int32.reduceToInt] at *; omega)
    · skip
      refine z_iload_n F dX2_lookThrough_61 1 rfl 62 rfl ?_
      refine z_goto F dX2_lookThrough_62 66 (by decide) ?_
      refine z_iadd F dX2_lookThrough_66 67 rfl ?_
      refine z_rp F dX2_lookThrough_67 ?_ rfl
      unfold eyeS
      (repeat' split) <;> first | rfl | (exfalso; simp only [Int32.lt_iff_toInt_lt, Int32.le_iff_toInt_le, ← Int32.toInt_inj, Int32.reduceToInt] at *; omega)
  by_cases e1_6 : k = 6
  · skip
    refine z_tableIn F dX2_lookThrough_1 (by rw [e1_6]; decide) (by rw [e1_6]; decide) (by rw [e1_6]; rfl) 68 (by decide) ?_
    refine z_iload_n F dX2_lookThrough_68 1 rfl 69 rfl ?_
    refine z_rp F dX2_lookThrough_69 ?_ rfl
    unfold eyeS
    (repeat' split) <;> first | rfl | (exfalso; simp only [Int32.lt_iff_toInt_lt, Int32.le_iff_toInt_le, ← Int32.toInt_inj, Int32.reduceToInt] at *; omega)
  refine z_tableOut F dX2_lookThrough_1 (by have t0 := k.toInt; have t1 := lv_neT e1_1 (a := 1) rfl; have t2 := lv_neT e1_2 (a := 2) rfl; have t3 := lv_neT e1_3 (a := 3) rfl; have t4 := lv_neT e1_4 (a := 4) rfl; have t5 := lv_neT e1_5 (a := 5) rfl; have t6 := lv_neT e1_6 (a := 6) rfl; omega) 70 (by decide) ?_
  refine z_iconst F dX2_lookThrough_70 2 (by decide) 71 rfl ?_
  refine z_rp F dX2_lookThrough_71 ?_ rfl
  unfold eyeS
  (repeat' split) <;> first | rfl | (exfalso; simp only [Int32.lt_iff_toInt_lt, Int32.le_iff_toInt_le, ← Int32.toInt_inj, Int32.reduceToInt] at *; omega)
set_option maxHeartbeats 400000 in
set_option maxRecDepth 10000 in
theorem kX9_isKm {l : Launch} {E : z_E} (σ : z_M) {S : z_Sh} (x : Int32) : z_C l E S 0 yX9_isKm cX9_isKm 1 (some FieldType.boolean) [.int x] σ (z_Pp (bI (0 ≤ x ∧ x ≤ 69)) σ) := by
  refine z_intro iX9_isKm (Nat.le_of_ble_eq_true rfl) (fun K F => ?_)
  refine z_iload_n F dX9_isKm_0 0 rfl 1 rfl ?_
  refine z_if_lt F dX9_isKm_1 14 (by decide) 4 rfl (fun h1 => ?_) (fun h1 => ?_)
  · skip
    refine z_iconst F dX9_isKm_14 0 (by decide) 15 rfl ?_
    refine z_rpz F dX9_isKm_15 (by first | rfl | exact bIn) ?_ rfl
    first | (refine (bI_t ?_).symm; simp only [Int32.lt_iff_toInt_lt, Int32.le_iff_toInt_le, ← Int32.toInt_inj, Int32.reduceToInt] at *; omega) | (refine (bI_f ?_).symm; simp only [Int32.lt_iff_toInt_lt, Int32.le_iff_toInt_le, ← Int32.toInt_inj, Int32.reduceToInt] at *; omega)
  · skip
    refine z_iload_n F dX9_isKm_4 0 rfl 5 rfl ?_
    refine z_bipush F dX9_isKm_5 69 (by decide) 7 rfl ?_
    refine z_icmp_gt F dX9_isKm_7 14 (by decide) 10 rfl (fun h7 => ?_) (fun h7 => ?_)
    · skip
      refine z_iconst F dX9_isKm_14 0 (by decide) 15 rfl ?_
      refine z_rpz F dX9_isKm_15 (by first | rfl | exact bIn) ?_ rfl
      first | (refine (bI_t ?_).symm; simp only [Int32.lt_iff_toInt_lt, Int32.le_iff_toInt_le, ← Int32.toInt_inj, Int32.reduceToInt] at *; omega) | (refine (bI_f ?_).symm; simp only [Int32.lt_iff_toInt_lt, Int32.le_iff_toInt_le, ← Int32.toInt_inj, Int32.reduceToInt] at *; omega)
    · skip
      refine z_iconst F dX9_isKm_10 1 (by decide) 11 rfl ?_
      refine z_goto F dX9_isKm_11 15 (by decide) ?_
      refine z_rpz F dX9_isKm_15 (by first | rfl | exact bIn) ?_ rfl
      first | (refine (bI_t ?_).symm; simp only [Int32.lt_iff_toInt_lt, Int32.le_iff_toInt_le, ← Int32.toInt_inj, Int32.reduceToInt] at *; omega) | (refine (bI_f ?_).symm; simp only [Int32.lt_iff_toInt_lt, Int32.le_iff_toInt_le, ← Int32.toInt_inj, Int32.reduceToInt] at *; omega)
set_option maxHeartbeats 400000 in
set_option maxRecDepth 10000 in
theorem kX9_isNumber {l : Launch} {E : z_E} (σ : z_M) {S : z_Sh} (x : Int32) : z_C l E S 0 yX9_isNumber cX9_isNumber 1 (some FieldType.boolean) [.int x] σ (z_Pp (bI (0 ≤ x ∧ x < 8)) σ) := by
  refine z_intro iX9_isNumber (Nat.le_of_ble_eq_true rfl) (fun K F => ?_)
  refine z_iload_n F dX9_isNumber_0 0 rfl 1 rfl ?_
  refine z_if_lt F dX9_isNumber_1 14 (by decide) 4 rfl (fun h1 => ?_) (fun h1 => ?_)
  · skip
    refine z_iconst F dX9_isNumber_14 0 (by decide) 15 rfl ?_
    refine z_rpz F dX9_isNumber_15 (by first | rfl | exact bIn) ?_ rfl
    first | (refine (bI_t ?_).symm; simp only [Int32.lt_iff_toInt_lt, Int32.le_iff_toInt_le, ← Int32.toInt_inj, Int32.reduceToInt] at *; omega) | (refine (bI_f ?_).symm; simp only [Int32.lt_iff_toInt_lt, Int32.le_iff_toInt_le, ← Int32.toInt_inj, Int32.reduceToInt] at *; omega)
  · skip
    refine z_iload_n F dX9_isNumber_4 0 rfl 5 rfl ?_
    refine z_bipush F dX9_isNumber_5 8 (by decide) 7 rfl ?_
    refine z_icmp_ge F dX9_isNumber_7 14 (by decide) 10 rfl (fun h7 => ?_) (fun h7 => ?_)
    · skip
      refine z_iconst F dX9_isNumber_14 0 (by decide) 15 rfl ?_
      refine z_rpz F dX9_isNumber_15 (by first | rfl | exact bIn) ?_ rfl
      first | (refine (bI_t ?_).symm; simp only [Int32.lt_iff_toInt_lt, Int32.le_iff_toInt_le, ← Int32.toInt_inj, Int32.reduceToInt] at *; omega) | (refine (bI_f ?_).symm; simp only [Int32.lt_iff_toInt_lt, Int32.le_iff_toInt_le, ← Int32.toInt_inj, Int32.reduceToInt] at *; omega)
    · skip
      refine z_iconst F dX9_isNumber_10 1 (by decide) 11 rfl ?_
      refine z_goto F dX9_isNumber_11 15 (by decide) ?_
      refine z_rpz F dX9_isNumber_15 (by first | rfl | exact bIn) ?_ rfl
      first | (refine (bI_t ?_).symm; simp only [Int32.lt_iff_toInt_lt, Int32.le_iff_toInt_le, ← Int32.toInt_inj, Int32.reduceToInt] at *; omega) | (refine (bI_f ?_).symm; simp only [Int32.lt_iff_toInt_lt, Int32.le_iff_toInt_le, ← Int32.toInt_inj, Int32.reduceToInt] at *; omega)
set_option maxHeartbeats 400000 in
set_option maxRecDepth 10000 in
theorem kX9_isUse {l : Launch} {E : z_E} (σ : z_M) {S : z_Sh} (x : Int32) : z_C l E S 0 yX9_isUse cX9_isUse 1 (some FieldType.boolean) [.int x] σ (z_Pp (bI (0 ≤ x ∧ x < 2)) σ) := by
  refine z_intro iX9_isUse (Nat.le_of_ble_eq_true rfl) (fun K F => ?_)
  refine z_iload_n F dX9_isUse_0 0 rfl 1 rfl ?_
  refine z_if_lt F dX9_isUse_1 13 (by decide) 4 rfl (fun h1 => ?_) (fun h1 => ?_)
  · skip
    refine z_iconst F dX9_isUse_13 0 (by decide) 14 rfl ?_
    refine z_rpz F dX9_isUse_14 (by first | rfl | exact bIn) ?_ rfl
    first | (refine (bI_t ?_).symm; simp only [Int32.lt_iff_toInt_lt, Int32.le_iff_toInt_le, ← Int32.toInt_inj, Int32.reduceToInt] at *; omega) | (refine (bI_f ?_).symm; simp only [Int32.lt_iff_toInt_lt, Int32.le_iff_toInt_le, ← Int32.toInt_inj, Int32.reduceToInt] at *; omega)
  · skip
    refine z_iload_n F dX9_isUse_4 0 rfl 5 rfl ?_
    refine z_iconst F dX9_isUse_5 2 (by decide) 6 rfl ?_
    refine z_icmp_ge F dX9_isUse_6 13 (by decide) 9 rfl (fun h6 => ?_) (fun h6 => ?_)
    · skip
      refine z_iconst F dX9_isUse_13 0 (by decide) 14 rfl ?_
      refine z_rpz F dX9_isUse_14 (by first | rfl | exact bIn) ?_ rfl
      first | (refine (bI_t ?_).symm; simp only [Int32.lt_iff_toInt_lt, Int32.le_iff_toInt_le, ← Int32.toInt_inj, Int32.reduceToInt] at *; omega) | (refine (bI_f ?_).symm; simp only [Int32.lt_iff_toInt_lt, Int32.le_iff_toInt_le, ← Int32.toInt_inj, Int32.reduceToInt] at *; omega)
    · skip
      refine z_iconst F dX9_isUse_9 1 (by decide) 10 rfl ?_
      refine z_goto F dX9_isUse_10 14 (by decide) ?_
      refine z_rpz F dX9_isUse_14 (by first | rfl | exact bIn) ?_ rfl
      first | (refine (bI_t ?_).symm; simp only [Int32.lt_iff_toInt_lt, Int32.le_iff_toInt_le, ← Int32.toInt_inj, Int32.reduceToInt] at *; omega) | (refine (bI_f ?_).symm; simp only [Int32.lt_iff_toInt_lt, Int32.le_iff_toInt_le, ← Int32.toInt_inj, Int32.reduceToInt] at *; omega)
set_option maxHeartbeats 400000 in
set_option maxRecDepth 10000 in
theorem kX9_isSheet {l : Launch} {E : z_E} (σ : z_M) {S : z_Sh} (x : Int32) : z_C l E S 0 yX9_isSheet cX9_isSheet 1 (some FieldType.boolean) [.int x] σ (z_Pp (bI (0 ≤ x ∧ x < 4)) σ) := by
  refine z_intro iX9_isSheet (Nat.le_of_ble_eq_true rfl) (fun K F => ?_)
  refine z_iload_n F dX9_isSheet_0 0 rfl 1 rfl ?_
  refine z_if_lt F dX9_isSheet_1 13 (by decide) 4 rfl (fun h1 => ?_) (fun h1 => ?_)
  · skip
    refine z_iconst F dX9_isSheet_13 0 (by decide) 14 rfl ?_
    refine z_rpz F dX9_isSheet_14 (by first | rfl | exact bIn) ?_ rfl
    first | (refine (bI_t ?_).symm; simp only [Int32.lt_iff_toInt_lt, Int32.le_iff_toInt_le, ← Int32.toInt_inj, Int32.reduceToInt] at *; omega) | (refine (bI_f ?_).symm; simp only [Int32.lt_iff_toInt_lt, Int32.le_iff_toInt_le, ← Int32.toInt_inj, Int32.reduceToInt] at *; omega)
  · skip
    refine z_iload_n F dX9_isSheet_4 0 rfl 5 rfl ?_
    refine z_iconst F dX9_isSheet_5 4 (by decide) 6 rfl ?_
    refine z_icmp_ge F dX9_isSheet_6 13 (by decide) 9 rfl (fun h6 => ?_) (fun h6 => ?_)
    · skip
      refine z_iconst F dX9_isSheet_13 0 (by decide) 14 rfl ?_
      refine z_rpz F dX9_isSheet_14 (by first | rfl | exact bIn) ?_ rfl
      first | (refine (bI_t ?_).symm; simp only [Int32.lt_iff_toInt_lt, Int32.le_iff_toInt_le, ← Int32.toInt_inj, Int32.reduceToInt] at *; omega) | (refine (bI_f ?_).symm; simp only [Int32.lt_iff_toInt_lt, Int32.le_iff_toInt_le, ← Int32.toInt_inj, Int32.reduceToInt] at *; omega)
    · skip
      refine z_iconst F dX9_isSheet_9 1 (by decide) 10 rfl ?_
      refine z_goto F dX9_isSheet_10 14 (by decide) ?_
      refine z_rpz F dX9_isSheet_14 (by first | rfl | exact bIn) ?_ rfl
      first | (refine (bI_t ?_).symm; simp only [Int32.lt_iff_toInt_lt, Int32.le_iff_toInt_le, ← Int32.toInt_inj, Int32.reduceToInt] at *; omega) | (refine (bI_f ?_).symm; simp only [Int32.lt_iff_toInt_lt, Int32.le_iff_toInt_le, ← Int32.toInt_inj, Int32.reduceToInt] at *; omega)
set_option maxHeartbeats 400000 in
set_option maxRecDepth 10000 in
theorem kX9_isIn {l : Launch} {E : z_E} (σ : z_M) {S : z_Sh} (s x : Int32) : z_C l E S 0 yX9_isIn cX9_isIn 2 (some FieldType.boolean) [.int s, .int x] σ (z_Pp (bI (¬ (s >>> (x &&& 31)) &&& 1 = 0)) σ) := by
  refine z_intro iX9_isIn (Nat.le_of_ble_eq_true rfl) (fun K F => ?_)
  refine z_iload_n F dX9_isIn_0 0 rfl 1 rfl ?_
  refine z_iload_n F dX9_isIn_1 1 rfl 2 rfl ?_
  refine z_ishr F dX9_isIn_2 3 rfl ?_
  refine z_iconst F dX9_isIn_3 1 (by decide) 4 rfl ?_
  refine z_iand F dX9_isIn_4 5 rfl ?_
  refine z_if_eq F dX9_isIn_5 12 (by decide) 8 rfl (fun h5 => ?_) (fun h5 => ?_)
  · skip
    refine z_iconst F dX9_isIn_12 0 (by decide) 13 rfl ?_
    refine z_rpz F dX9_isIn_13 (by first | rfl | exact bIn) ?_ rfl
    first | (refine (bI_t ?_).symm; simp only [Int32.lt_iff_toInt_lt, Int32.le_iff_toInt_le, ← Int32.toInt_inj, Int32.reduceToInt] at *; omega) | (refine (bI_f ?_).symm; simp only [Int32.lt_iff_toInt_lt, Int32.le_iff_toInt_le, ← Int32.toInt_inj, Int32.reduceToInt] at *; omega)
  · skip
    refine z_iconst F dX9_isIn_8 1 (by decide) 9 rfl ?_
    refine z_goto F dX9_isIn_9 13 (by decide) ?_
    refine z_rpz F dX9_isIn_13 (by first | rfl | exact bIn) ?_ rfl
    first | (refine (bI_t ?_).symm; simp only [Int32.lt_iff_toInt_lt, Int32.le_iff_toInt_le, ← Int32.toInt_inj, Int32.reduceToInt] at *; omega) | (refine (bI_f ?_).symm; simp only [Int32.lt_iff_toInt_lt, Int32.le_iff_toInt_le, ← Int32.toInt_inj, Int32.reduceToInt] at *; omega)
set_option maxHeartbeats 400000 in
set_option maxRecDepth 10000 in
theorem kX3_isDigit {l : Launch} {E : z_E} (σ : z_M) {S : z_Sh} (x : Int32) : z_C l E S 0 yX3_isDigit cX3_isDigit 1 (some FieldType.boolean) [.int x] σ (z_Pp (bI (48 ≤ x ∧ x ≤ 57)) σ) := by
  refine z_intro iX3_isDigit (Nat.le_of_ble_eq_true rfl) (fun K F => ?_)
  refine z_iload_n F dX3_isDigit_0 0 rfl 1 rfl ?_
  refine z_bipush F dX3_isDigit_1 48 (by decide) 3 rfl ?_
  refine z_icmp_lt F dX3_isDigit_3 16 (by decide) 6 rfl (fun h3 => ?_) (fun h3 => ?_)
  · skip
    refine z_iconst F dX3_isDigit_16 0 (by decide) 17 rfl ?_
    refine z_rpz F dX3_isDigit_17 (by first | rfl | exact bIn) ?_ rfl
    first | (refine (bI_t ?_).symm; simp only [Int32.lt_iff_toInt_lt, Int32.le_iff_toInt_le, ← Int32.toInt_inj, Int32.reduceToInt] at *; omega) | (refine (bI_f ?_).symm; simp only [Int32.lt_iff_toInt_lt, Int32.le_iff_toInt_le, ← Int32.toInt_inj, Int32.reduceToInt] at *; omega)
  · skip
    refine z_iload_n F dX3_isDigit_6 0 rfl 7 rfl ?_
    refine z_bipush F dX3_isDigit_7 57 (by decide) 9 rfl ?_
    refine z_icmp_gt F dX3_isDigit_9 16 (by decide) 12 rfl (fun h9 => ?_) (fun h9 => ?_)
    · skip
      refine z_iconst F dX3_isDigit_16 0 (by decide) 17 rfl ?_
      refine z_rpz F dX3_isDigit_17 (by first | rfl | exact bIn) ?_ rfl
      first | (refine (bI_t ?_).symm; simp only [Int32.lt_iff_toInt_lt, Int32.le_iff_toInt_le, ← Int32.toInt_inj, Int32.reduceToInt] at *; omega) | (refine (bI_f ?_).symm; simp only [Int32.lt_iff_toInt_lt, Int32.le_iff_toInt_le, ← Int32.toInt_inj, Int32.reduceToInt] at *; omega)
    · skip
      refine z_iconst F dX3_isDigit_12 1 (by decide) 13 rfl ?_
      refine z_goto F dX3_isDigit_13 17 (by decide) ?_
      refine z_rpz F dX3_isDigit_17 (by first | rfl | exact bIn) ?_ rfl
      first | (refine (bI_t ?_).symm; simp only [Int32.lt_iff_toInt_lt, Int32.le_iff_toInt_le, ← Int32.toInt_inj, Int32.reduceToInt] at *; omega) | (refine (bI_f ?_).symm; simp only [Int32.lt_iff_toInt_lt, Int32.le_iff_toInt_le, ← Int32.toInt_inj, Int32.reduceToInt] at *; omega)
set_option maxHeartbeats 400000 in
set_option maxRecDepth 10000 in
theorem kX3_levelOf {l : Launch} {E : z_E} (σ : z_M) {S : z_Sh} (x : Int32) : z_C l E S 0 yX3_levelOf cX3_levelOf 1 (some FieldType.int) [.int x] σ (z_Pp (lvS x) σ) := by
  refine z_intro iX3_levelOf (Nat.le_of_ble_eq_true rfl) (fun K F => ?_)
  refine z_iload_n F dX3_levelOf_0 0 rfl 1 rfl ?_
  by_cases e1_37 : x = 37
  · skip
    refine z_lookup F dX3_levelOf_1 (by decide +kernel) (by rw [e1_37]; first | done | decide +kernel) 100 (by decide) ?_
    refine z_iconst F dX3_levelOf_100 4 (by decide) 101 rfl ?_
    refine z_rp F dX3_levelOf_101 ?_ rfl
    unfold lvS
    (repeat' split) <;> first | rfl | (exfalso; simp only [Int32.lt_iff_toInt_lt, Int32.le_iff_toInt_le, ← Int32.toInt_inj, Int32.reduceToInt] at *; omega)
  by_cases e1_38 : x = 38
  · skip
    refine z_lookup F dX3_levelOf_1 (by decide +kernel) (by rw [e1_38]; first | done | decide +kernel) 94 (by decide) ?_
    refine z_iconst F dX3_levelOf_94 1 (by decide) 95 rfl ?_
    refine z_rp F dX3_levelOf_95 ?_ rfl
    unfold lvS
    (repeat' split) <;> first | rfl | (exfalso; simp only [Int32.lt_iff_toInt_lt, Int32.le_iff_toInt_le, ← Int32.toInt_inj, Int32.reduceToInt] at *; omega)
  by_cases e1_42 : x = 42
  · skip
    refine z_lookup F dX3_levelOf_1 (by decide +kernel) (by rw [e1_42]; first | done | decide +kernel) 100 (by decide) ?_
    refine z_iconst F dX3_levelOf_100 4 (by decide) 101 rfl ?_
    refine z_rp F dX3_levelOf_101 ?_ rfl
    unfold lvS
    (repeat' split) <;> first | rfl | (exfalso; simp only [Int32.lt_iff_toInt_lt, Int32.le_iff_toInt_le, ← Int32.toInt_inj, Int32.reduceToInt] at *; omega)
  by_cases e1_43 : x = 43
  · skip
    refine z_lookup F dX3_levelOf_1 (by decide +kernel) (by rw [e1_43]; first | done | decide +kernel) 98 (by decide) ?_
    refine z_iconst F dX3_levelOf_98 3 (by decide) 99 rfl ?_
    refine z_rp F dX3_levelOf_99 ?_ rfl
    unfold lvS
    (repeat' split) <;> first | rfl | (exfalso; simp only [Int32.lt_iff_toInt_lt, Int32.le_iff_toInt_le, ← Int32.toInt_inj, Int32.reduceToInt] at *; omega)
  by_cases e1_45 : x = 45
  · skip
    refine z_lookup F dX3_levelOf_1 (by decide +kernel) (by rw [e1_45]; first | done | decide +kernel) 98 (by decide) ?_
    refine z_iconst F dX3_levelOf_98 3 (by decide) 99 rfl ?_
    refine z_rp F dX3_levelOf_99 ?_ rfl
    unfold lvS
    (repeat' split) <;> first | rfl | (exfalso; simp only [Int32.lt_iff_toInt_lt, Int32.le_iff_toInt_le, ← Int32.toInt_inj, Int32.reduceToInt] at *; omega)
  by_cases e1_47 : x = 47
  · skip
    refine z_lookup F dX3_levelOf_1 (by decide +kernel) (by rw [e1_47]; first | done | decide +kernel) 100 (by decide) ?_
    refine z_iconst F dX3_levelOf_100 4 (by decide) 101 rfl ?_
    refine z_rp F dX3_levelOf_101 ?_ rfl
    unfold lvS
    (repeat' split) <;> first | rfl | (exfalso; simp only [Int32.lt_iff_toInt_lt, Int32.le_iff_toInt_le, ← Int32.toInt_inj, Int32.reduceToInt] at *; omega)
  by_cases e1_60 : x = 60
  · skip
    refine z_lookup F dX3_levelOf_1 (by decide +kernel) (by rw [e1_60]; first | done | decide +kernel) 96 (by decide) ?_
    refine z_iconst F dX3_levelOf_96 2 (by decide) 97 rfl ?_
    refine z_rp F dX3_levelOf_97 ?_ rfl
    unfold lvS
    (repeat' split) <;> first | rfl | (exfalso; simp only [Int32.lt_iff_toInt_lt, Int32.le_iff_toInt_le, ← Int32.toInt_inj, Int32.reduceToInt] at *; omega)
  by_cases e1_61 : x = 61
  · skip
    refine z_lookup F dX3_levelOf_1 (by decide +kernel) (by rw [e1_61]; first | done | decide +kernel) 96 (by decide) ?_
    refine z_iconst F dX3_levelOf_96 2 (by decide) 97 rfl ?_
    refine z_rp F dX3_levelOf_97 ?_ rfl
    unfold lvS
    (repeat' split) <;> first | rfl | (exfalso; simp only [Int32.lt_iff_toInt_lt, Int32.le_iff_toInt_le, ← Int32.toInt_inj, Int32.reduceToInt] at *; omega)
  by_cases e1_62 : x = 62
  · skip
    refine z_lookup F dX3_levelOf_1 (by decide +kernel) (by rw [e1_62]; first | done | decide +kernel) 96 (by decide) ?_
    refine z_iconst F dX3_levelOf_96 2 (by decide) 97 rfl ?_
    refine z_rp F dX3_levelOf_97 ?_ rfl
    unfold lvS
    (repeat' split) <;> first | rfl | (exfalso; simp only [Int32.lt_iff_toInt_lt, Int32.le_iff_toInt_le, ← Int32.toInt_inj, Int32.reduceToInt] at *; omega)
  by_cases e1_124 : x = 124
  · skip
    refine z_lookup F dX3_levelOf_1 (by decide +kernel) (by rw [e1_124]; first | done | decide +kernel) 92 (by decide) ?_
    refine z_iconst F dX3_levelOf_92 0 (by decide) 93 rfl ?_
    refine z_rp F dX3_levelOf_93 ?_ rfl
    unfold lvS
    (repeat' split) <;> first | rfl | (exfalso; simp only [Int32.lt_iff_toInt_lt, Int32.le_iff_toInt_le, ← Int32.toInt_inj, Int32.reduceToInt] at *; omega)
  refine z_lookup F dX3_levelOf_1 (by decide +kernel) (by show Op.lookupswitch.offset [(37, 99), (38, 93), (42, 99), (43, 97), (45, 97), (47, 99), (60, 95), (61, 95), (62, 95), (124, 91)] _ _ = 101; rw [lv_osw (a := 37) e1_37 (by decide), lv_osw (a := 38) e1_38 (by decide), lv_osw (a := 42) e1_42 (by decide), lv_osw (a := 43) e1_43 (by decide), lv_osw (a := 45) e1_45 (by decide), lv_osw (a := 47) e1_47 (by decide), lv_osw (a := 60) e1_60 (by decide), lv_osw (a := 61) e1_61 (by decide), lv_osw (a := 62) e1_62 (by decide), lv_osw (a := 124) e1_124 (by decide)]; rfl) 102 (by decide) ?_
  refine z_iconst F dX3_levelOf_102 (-1) (by decide) 103 rfl ?_
  refine z_rp F dX3_levelOf_103 ?_ rfl
  unfold lvS
  (repeat' split) <;> first | rfl | (exfalso; simp only [Int32.lt_iff_toInt_lt, Int32.le_iff_toInt_le, ← Int32.toInt_inj, Int32.reduceToInt] at *; omega)
set_option maxHeartbeats 400000 in
set_option maxRecDepth 10000 in
theorem kX7_isVoice {l : Launch} {E : z_E} (σ : z_M) {S : z_Sh} (x : Int32) : z_C l E S 0 yX7_isVoice cX7_isVoice 1 (some FieldType.boolean) [.int x] σ (z_Pp (bI (0 ≤ x ∧ x < 4)) σ) := by
  refine z_intro iX7_isVoice (Nat.le_of_ble_eq_true rfl) (fun K F => ?_)
  refine z_iload_n F dX7_isVoice_0 0 rfl 1 rfl ?_
  refine z_if_lt F dX7_isVoice_1 13 (by decide) 4 rfl (fun h1 => ?_) (fun h1 => ?_)
  · skip
    refine z_iconst F dX7_isVoice_13 0 (by decide) 14 rfl ?_
    refine z_rpz F dX7_isVoice_14 (by first | rfl | exact bIn) ?_ rfl
    first | (refine (bI_t ?_).symm; simp only [Int32.lt_iff_toInt_lt, Int32.le_iff_toInt_le, ← Int32.toInt_inj, Int32.reduceToInt] at *; omega) | (refine (bI_f ?_).symm; simp only [Int32.lt_iff_toInt_lt, Int32.le_iff_toInt_le, ← Int32.toInt_inj, Int32.reduceToInt] at *; omega)
  · skip
    refine z_iload_n F dX7_isVoice_4 0 rfl 5 rfl ?_
    refine z_iconst F dX7_isVoice_5 4 (by decide) 6 rfl ?_
    refine z_icmp_ge F dX7_isVoice_6 13 (by decide) 9 rfl (fun h6 => ?_) (fun h6 => ?_)
    · skip
      refine z_iconst F dX7_isVoice_13 0 (by decide) 14 rfl ?_
      refine z_rpz F dX7_isVoice_14 (by first | rfl | exact bIn) ?_ rfl
      first | (refine (bI_t ?_).symm; simp only [Int32.lt_iff_toInt_lt, Int32.le_iff_toInt_le, ← Int32.toInt_inj, Int32.reduceToInt] at *; omega) | (refine (bI_f ?_).symm; simp only [Int32.lt_iff_toInt_lt, Int32.le_iff_toInt_le, ← Int32.toInt_inj, Int32.reduceToInt] at *; omega)
    · skip
      refine z_iconst F dX7_isVoice_9 1 (by decide) 10 rfl ?_
      refine z_goto F dX7_isVoice_10 14 (by decide) ?_
      refine z_rpz F dX7_isVoice_14 (by first | rfl | exact bIn) ?_ rfl
      first | (refine (bI_t ?_).symm; simp only [Int32.lt_iff_toInt_lt, Int32.le_iff_toInt_le, ← Int32.toInt_inj, Int32.reduceToInt] at *; omega) | (refine (bI_f ?_).symm; simp only [Int32.lt_iff_toInt_lt, Int32.le_iff_toInt_le, ← Int32.toInt_inj, Int32.reduceToInt] at *; omega)
set_option maxHeartbeats 400000 in
set_option maxRecDepth 10000 in
theorem kX5_areBits {l : Launch} {E : z_E} (σ : z_M) {S : z_Sh} (x : Int32) : z_C l E S 0 yX5_areBits cX5_areBits 1 (some FieldType.boolean) [.int x] σ (z_Pp (bI (x = 0 ∨ x = 8 ∨ x = 16 ∨ x = 32)) σ) := by
  refine z_intro iX5_areBits (Nat.le_of_ble_eq_true rfl) (fun K F => ?_)
  refine z_iload_n F dX5_areBits_0 0 rfl 1 rfl ?_
  refine z_if_eq F dX5_areBits_1 22 (by decide) 4 rfl (fun h1 => ?_) (fun h1 => ?_)
  · skip
    refine z_iconst F dX5_areBits_22 1 (by decide) 23 rfl ?_
    refine z_goto F dX5_areBits_23 27 (by decide) ?_
    refine z_rpz F dX5_areBits_27 (by first | rfl | exact bIn) ?_ rfl
    first | (refine (bI_t ?_).symm; simp only [Int32.lt_iff_toInt_lt, Int32.le_iff_toInt_le, ← Int32.toInt_inj, Int32.reduceToInt] at *; omega) | (refine (bI_f ?_).symm; simp only [Int32.lt_iff_toInt_lt, Int32.le_iff_toInt_le, ← Int32.toInt_inj, Int32.reduceToInt] at *; omega)
  · skip
    refine z_iload_n F dX5_areBits_4 0 rfl 5 rfl ?_
    refine z_bipush F dX5_areBits_5 8 (by decide) 7 rfl ?_
    refine z_icmp_eq F dX5_areBits_7 22 (by decide) 10 rfl (fun h7 => ?_) (fun h7 => ?_)
    · skip
      refine z_iconst F dX5_areBits_22 1 (by decide) 23 rfl ?_
      refine z_goto F dX5_areBits_23 27 (by decide) ?_
      refine z_rpz F dX5_areBits_27 (by first | rfl | exact bIn) ?_ rfl
      first | (refine (bI_t ?_).symm; simp only [Int32.lt_iff_toInt_lt, Int32.le_iff_toInt_le, ← Int32.toInt_inj, Int32.reduceToInt] at *; omega) | (refine (bI_f ?_).symm; simp only [Int32.lt_iff_toInt_lt, Int32.le_iff_toInt_le, ← Int32.toInt_inj, Int32.reduceToInt] at *; omega)
    · skip
      refine z_iload_n F dX5_areBits_10 0 rfl 11 rfl ?_
      refine z_bipush F dX5_areBits_11 16 (by decide) 13 rfl ?_
      refine z_icmp_eq F dX5_areBits_13 22 (by decide) 16 rfl (fun h13 => ?_) (fun h13 => ?_)
      · skip
        refine z_iconst F dX5_areBits_22 1 (by decide) 23 rfl ?_
        refine z_goto F dX5_areBits_23 27 (by decide) ?_
        refine z_rpz F dX5_areBits_27 (by first | rfl | exact bIn) ?_ rfl
        first | (refine (bI_t ?_).symm; simp only [Int32.lt_iff_toInt_lt, Int32.le_iff_toInt_le, ← Int32.toInt_inj, Int32.reduceToInt] at *; omega) | (refine (bI_f ?_).symm; simp only [Int32.lt_iff_toInt_lt, Int32.le_iff_toInt_le, ← Int32.toInt_inj, Int32.reduceToInt] at *; omega)
      · skip
        refine z_iload_n F dX5_areBits_16 0 rfl 17 rfl ?_
        refine z_bipush F dX5_areBits_17 32 (by decide) 19 rfl ?_
        refine z_icmp_ne F dX5_areBits_19 26 (by decide) 22 rfl (fun h19 => ?_) (fun h19 => ?_)
        · skip
          refine z_iconst F dX5_areBits_26 0 (by decide) 27 rfl ?_
          refine z_rpz F dX5_areBits_27 (by first | rfl | exact bIn) ?_ rfl
          first | (refine (bI_t ?_).symm; simp only [Int32.lt_iff_toInt_lt, Int32.le_iff_toInt_le, ← Int32.toInt_inj, Int32.reduceToInt] at *; omega) | (refine (bI_f ?_).symm; simp only [Int32.lt_iff_toInt_lt, Int32.le_iff_toInt_le, ← Int32.toInt_inj, Int32.reduceToInt] at *; omega)
        · skip
          refine z_iconst F dX5_areBits_22 1 (by decide) 23 rfl ?_
          refine z_goto F dX5_areBits_23 27 (by decide) ?_
          refine z_rpz F dX5_areBits_27 (by first | rfl | exact bIn) ?_ rfl
          first | (refine (bI_t ?_).symm; simp only [Int32.lt_iff_toInt_lt, Int32.le_iff_toInt_le, ← Int32.toInt_inj, Int32.reduceToInt] at *; omega) | (refine (bI_f ?_).symm; simp only [Int32.lt_iff_toInt_lt, Int32.le_iff_toInt_le, ← Int32.toInt_inj, Int32.reduceToInt] at *; omega)
set_option maxHeartbeats 400000 in
set_option maxRecDepth 10000 in
theorem kX6_named {l : Launch} {E : z_E} (σ : z_M) {S : z_Sh} (p a b c : Int32) : z_C l E S 0 yX6_named cX6_named 4 (some FieldType.int) [.int p, .int a, .int b, .int c] σ (z_Pp (if p = 0 then a else if p = 1 then b else c) σ) := by
  refine z_intro iX6_named (Nat.le_of_ble_eq_true rfl) (fun K F => ?_)
  refine z_iload_n F dX6_named_0 0 rfl 1 rfl ?_
  refine z_if_ne F dX6_named_1 8 (by decide) 4 rfl (fun h1 => ?_) (fun h1 => ?_)
  · skip
    refine z_iload_n F dX6_named_8 0 rfl 9 rfl ?_
    refine z_iconst F dX6_named_9 1 (by decide) 10 rfl ?_
    refine z_icmp_ne F dX6_named_10 17 (by decide) 13 rfl (fun h10 => ?_) (fun h10 => ?_)
    · skip
      refine z_iload_n F dX6_named_17 3 rfl 18 rfl ?_
      refine z_rp F dX6_named_18 ?_ rfl
      (repeat' split) <;> first | rfl | (exfalso; simp only [Int32.lt_iff_toInt_lt, Int32.le_iff_toInt_le, ← Int32.toInt_inj, Int32.reduceToInt] at *; omega)
    · skip
      refine z_iload_n F dX6_named_13 2 rfl 14 rfl ?_
      refine z_goto F dX6_named_14 18 (by decide) ?_
      refine z_rp F dX6_named_18 ?_ rfl
      (repeat' split) <;> first | rfl | (exfalso; simp only [Int32.lt_iff_toInt_lt, Int32.le_iff_toInt_le, ← Int32.toInt_inj, Int32.reduceToInt] at *; omega)
  · skip
    refine z_iload_n F dX6_named_4 1 rfl 5 rfl ?_
    refine z_goto F dX6_named_5 18 (by decide) ?_
    refine z_rp F dX6_named_18 ?_ rfl
    (repeat' split) <;> first | rfl | (exfalso; simp only [Int32.lt_iff_toInt_lt, Int32.le_iff_toInt_le, ← Int32.toInt_inj, Int32.reduceToInt] at *; omega)
set_option maxHeartbeats 4000000 in
set_option maxRecDepth 10000 in
theorem kX6_joined {l : Launch} {E : z_E} (σ : z_M) {S : z_Sh} (g a b : Int32) : z_C l E S 0 yX6_joined cX6_joined 3 (some FieldType.int) [.int g, .int a, .int b] σ (z_Pp (if g = 124 ∨ g = 38 ∨ g = 60 ∨ g = 61 ∨ g = 62 ∨ g = 43 ∨ g = 45 ∨ g = 42 ∨ g = 47 ∨ g = 37 then twoS g a b else 0) σ) := by
  refine z_intro iX6_joined (Nat.le_of_ble_eq_true rfl) (fun K F => ?_)
  refine z_iload_n F dX6_joined_0 0 rfl 1 rfl ?_
  by_cases e1_37 : g = 37
  · skip
    refine z_lookup F dX6_joined_1 (by decide +kernel) (by rw [e1_37]; first | done | decide +kernel) 177 (by decide) ?_
    refine z_iload_n F dX6_joined_177 2 rfl 178 rfl ?_
    refine z_if_ne F dX6_joined_178 185 (by decide) 181 rfl (fun h178 => ?_) (fun h178 => ?_)
    · skip
      refine z_iload_n F dX6_joined_185 1 rfl 186 rfl ?_
      refine z_iload_n F dX6_joined_186 2 rfl 187 rfl ?_
      refine z_irem F dX6_joined_187 h178 188 rfl ?_
      refine z_rp F dX6_joined_188 ?_ rfl
      first
        | (simp [twoS, bI, *]; done)
        | (unfold twoS bI; (repeat' split) <;> first | rfl | (exfalso; simp only [Int32.lt_iff_toInt_lt, Int32.le_iff_toInt_le, ← Int32.toInt_inj, Int32.reduceToInt] at *; omega))
    · skip
      refine z_iconst F dX6_joined_181 0 (by decide) 182 rfl ?_
      refine z_goto F dX6_joined_182 188 (by decide) ?_
      refine z_rp F dX6_joined_188 ?_ rfl
      first
        | (simp [twoS, bI, *]; done)
        | (unfold twoS bI; (repeat' split) <;> first | rfl | (exfalso; simp only [Int32.lt_iff_toInt_lt, Int32.le_iff_toInt_le, ← Int32.toInt_inj, Int32.reduceToInt] at *; omega))
  by_cases e1_38 : g = 38
  · skip
    refine z_lookup F dX6_joined_1 (by decide +kernel) (by rw [e1_38]; first | done | decide +kernel) 106 (by decide) ?_
    refine z_iload_n F dX6_joined_106 1 rfl 107 rfl ?_
    refine z_if_eq F dX6_joined_107 118 (by decide) 110 rfl (fun h107 => ?_) (fun h107 => ?_)
    · skip
      refine z_iconst F dX6_joined_118 0 (by decide) 119 rfl ?_
      refine z_rp F dX6_joined_119 ?_ rfl
      first
        | (simp [twoS, bI, *]; done)
        | (unfold twoS bI; (repeat' split) <;> first | rfl | (exfalso; simp only [Int32.lt_iff_toInt_lt, Int32.le_iff_toInt_le, ← Int32.toInt_inj, Int32.reduceToInt] at *; omega))
    · skip
      refine z_iload_n F dX6_joined_110 2 rfl 111 rfl ?_
      refine z_if_eq F dX6_joined_111 118 (by decide) 114 rfl (fun h111 => ?_) (fun h111 => ?_)
      · skip
        refine z_iconst F dX6_joined_118 0 (by decide) 119 rfl ?_
        refine z_rp F dX6_joined_119 ?_ rfl
        first
          | (simp [twoS, bI, *]; done)
          | (unfold twoS bI; (repeat' split) <;> first | rfl | (exfalso; simp only [Int32.lt_iff_toInt_lt, Int32.le_iff_toInt_le, ← Int32.toInt_inj, Int32.reduceToInt] at *; omega))
      · skip
        refine z_iconst F dX6_joined_114 1 (by decide) 115 rfl ?_
        refine z_goto F dX6_joined_115 119 (by decide) ?_
        refine z_rp F dX6_joined_119 ?_ rfl
        first
          | (simp [twoS, bI, *]; done)
          | (unfold twoS bI; (repeat' split) <;> first | rfl | (exfalso; simp only [Int32.lt_iff_toInt_lt, Int32.le_iff_toInt_le, ← Int32.toInt_inj, Int32.reduceToInt] at *; omega))
  by_cases e1_42 : g = 42
  · skip
    refine z_lookup F dX6_joined_1 (by decide +kernel) (by rw [e1_42]; first | done | decide +kernel) 161 (by decide) ?_
    refine z_iload_n F dX6_joined_161 1 rfl 162 rfl ?_
    refine z_iload_n F dX6_joined_162 2 rfl 163 rfl ?_
    refine z_imul F dX6_joined_163 164 rfl ?_
    refine z_rp F dX6_joined_164 ?_ rfl
    first
      | (simp [twoS, bI, *]; done)
      | (unfold twoS bI; (repeat' split) <;> first | rfl | (exfalso; simp only [Int32.lt_iff_toInt_lt, Int32.le_iff_toInt_le, ← Int32.toInt_inj, Int32.reduceToInt] at *; omega))
  by_cases e1_43 : g = 43
  · skip
    refine z_lookup F dX6_joined_1 (by decide +kernel) (by rw [e1_43]; first | done | decide +kernel) 153 (by decide) ?_
    refine z_iload_n F dX6_joined_153 1 rfl 154 rfl ?_
    refine z_iload_n F dX6_joined_154 2 rfl 155 rfl ?_
    refine z_iadd F dX6_joined_155 156 rfl ?_
    refine z_rp F dX6_joined_156 ?_ rfl
    first
      | (simp [twoS, bI, *]; done)
      | (unfold twoS bI; (repeat' split) <;> first | rfl | (exfalso; simp only [Int32.lt_iff_toInt_lt, Int32.le_iff_toInt_le, ← Int32.toInt_inj, Int32.reduceToInt] at *; omega))
  by_cases e1_45 : g = 45
  · skip
    refine z_lookup F dX6_joined_1 (by decide +kernel) (by rw [e1_45]; first | done | decide +kernel) 157 (by decide) ?_
    refine z_iload_n F dX6_joined_157 1 rfl 158 rfl ?_
    refine z_iload_n F dX6_joined_158 2 rfl 159 rfl ?_
    refine z_isub F dX6_joined_159 160 rfl ?_
    refine z_rp F dX6_joined_160 ?_ rfl
    first
      | (simp [twoS, bI, *]; done)
      | (unfold twoS bI; (repeat' split) <;> first | rfl | (exfalso; simp only [Int32.lt_iff_toInt_lt, Int32.le_iff_toInt_le, ← Int32.toInt_inj, Int32.reduceToInt] at *; omega))
  by_cases e1_47 : g = 47
  · skip
    refine z_lookup F dX6_joined_1 (by decide +kernel) (by rw [e1_47]; first | done | decide +kernel) 165 (by decide) ?_
    refine z_iload_n F dX6_joined_165 2 rfl 166 rfl ?_
    refine z_if_ne F dX6_joined_166 173 (by decide) 169 rfl (fun h166 => ?_) (fun h166 => ?_)
    · skip
      refine z_iload_n F dX6_joined_173 1 rfl 174 rfl ?_
      refine z_iload_n F dX6_joined_174 2 rfl 175 rfl ?_
      refine z_idiv F dX6_joined_175 h166 176 rfl ?_
      refine z_rp F dX6_joined_176 ?_ rfl
      first
        | (simp [twoS, bI, *]; done)
        | (unfold twoS bI; (repeat' split) <;> first | rfl | (exfalso; simp only [Int32.lt_iff_toInt_lt, Int32.le_iff_toInt_le, ← Int32.toInt_inj, Int32.reduceToInt] at *; omega))
    · skip
      refine z_iconst F dX6_joined_169 0 (by decide) 170 rfl ?_
      refine z_goto F dX6_joined_170 176 (by decide) ?_
      refine z_rp F dX6_joined_176 ?_ rfl
      first
        | (simp [twoS, bI, *]; done)
        | (unfold twoS bI; (repeat' split) <;> first | rfl | (exfalso; simp only [Int32.lt_iff_toInt_lt, Int32.le_iff_toInt_le, ← Int32.toInt_inj, Int32.reduceToInt] at *; omega))
  by_cases e1_60 : g = 60
  · skip
    refine z_lookup F dX6_joined_1 (by decide +kernel) (by rw [e1_60]; first | done | decide +kernel) 120 (by decide) ?_
    refine z_iload_n F dX6_joined_120 1 rfl 121 rfl ?_
    refine z_iload_n F dX6_joined_121 2 rfl 122 rfl ?_
    refine z_icmp_ge F dX6_joined_122 129 (by decide) 125 rfl (fun h122 => ?_) (fun h122 => ?_)
    · skip
      refine z_iconst F dX6_joined_129 0 (by decide) 130 rfl ?_
      refine z_rp F dX6_joined_130 ?_ rfl
      first
        | (simp [twoS, bI, *]; done)
        | (unfold twoS bI; (repeat' split) <;> first | rfl | (exfalso; simp only [Int32.lt_iff_toInt_lt, Int32.le_iff_toInt_le, ← Int32.toInt_inj, Int32.reduceToInt] at *; omega))
    · skip
      refine z_iconst F dX6_joined_125 1 (by decide) 126 rfl ?_
      refine z_goto F dX6_joined_126 130 (by decide) ?_
      refine z_rp F dX6_joined_130 ?_ rfl
      first
        | (simp [twoS, bI, *]; done)
        | (unfold twoS bI; (repeat' split) <;> first | rfl | (exfalso; simp only [Int32.lt_iff_toInt_lt, Int32.le_iff_toInt_le, ← Int32.toInt_inj, Int32.reduceToInt] at *; omega))
  by_cases e1_61 : g = 61
  · skip
    refine z_lookup F dX6_joined_1 (by decide +kernel) (by rw [e1_61]; first | done | decide +kernel) 131 (by decide) ?_
    refine z_iload_n F dX6_joined_131 1 rfl 132 rfl ?_
    refine z_iload_n F dX6_joined_132 2 rfl 133 rfl ?_
    refine z_icmp_ne F dX6_joined_133 140 (by decide) 136 rfl (fun h133 => ?_) (fun h133 => ?_)
    · skip
      refine z_iconst F dX6_joined_140 0 (by decide) 141 rfl ?_
      refine z_rp F dX6_joined_141 ?_ rfl
      first
        | (simp [twoS, bI, *]; done)
        | (unfold twoS bI; (repeat' split) <;> first | rfl | (exfalso; simp only [Int32.lt_iff_toInt_lt, Int32.le_iff_toInt_le, ← Int32.toInt_inj, Int32.reduceToInt] at *; omega))
    · skip
      refine z_iconst F dX6_joined_136 1 (by decide) 137 rfl ?_
      refine z_goto F dX6_joined_137 141 (by decide) ?_
      refine z_rp F dX6_joined_141 ?_ rfl
      first
        | (simp [twoS, bI, *]; done)
        | (unfold twoS bI; (repeat' split) <;> first | rfl | (exfalso; simp only [Int32.lt_iff_toInt_lt, Int32.le_iff_toInt_le, ← Int32.toInt_inj, Int32.reduceToInt] at *; omega))
  by_cases e1_62 : g = 62
  · skip
    refine z_lookup F dX6_joined_1 (by decide +kernel) (by rw [e1_62]; first | done | decide +kernel) 142 (by decide) ?_
    refine z_iload_n F dX6_joined_142 1 rfl 143 rfl ?_
    refine z_iload_n F dX6_joined_143 2 rfl 144 rfl ?_
    refine z_icmp_le F dX6_joined_144 151 (by decide) 147 rfl (fun h144 => ?_) (fun h144 => ?_)
    · skip
      refine z_iconst F dX6_joined_151 0 (by decide) 152 rfl ?_
      refine z_rp F dX6_joined_152 ?_ rfl
      first
        | (simp [twoS, bI, *]; done)
        | (unfold twoS bI; (repeat' split) <;> first | rfl | (exfalso; simp only [Int32.lt_iff_toInt_lt, Int32.le_iff_toInt_le, ← Int32.toInt_inj, Int32.reduceToInt] at *; omega))
    · skip
      refine z_iconst F dX6_joined_147 1 (by decide) 148 rfl ?_
      refine z_goto F dX6_joined_148 152 (by decide) ?_
      refine z_rp F dX6_joined_152 ?_ rfl
      first
        | (simp [twoS, bI, *]; done)
        | (unfold twoS bI; (repeat' split) <;> first | rfl | (exfalso; simp only [Int32.lt_iff_toInt_lt, Int32.le_iff_toInt_le, ← Int32.toInt_inj, Int32.reduceToInt] at *; omega))
  by_cases e1_124 : g = 124
  · skip
    refine z_lookup F dX6_joined_1 (by decide +kernel) (by rw [e1_124]; first | done | decide +kernel) 92 (by decide) ?_
    refine z_iload_n F dX6_joined_92 1 rfl 93 rfl ?_
    refine z_if_ne F dX6_joined_93 100 (by decide) 96 rfl (fun h93 => ?_) (fun h93 => ?_)
    · skip
      refine z_iconst F dX6_joined_100 1 (by decide) 101 rfl ?_
      refine z_goto F dX6_joined_101 105 (by decide) ?_
      refine z_rp F dX6_joined_105 ?_ rfl
      first
        | (simp [twoS, bI, *]; done)
        | (unfold twoS bI; (repeat' split) <;> first | rfl | (exfalso; simp only [Int32.lt_iff_toInt_lt, Int32.le_iff_toInt_le, ← Int32.toInt_inj, Int32.reduceToInt] at *; omega))
    · skip
      refine z_iload_n F dX6_joined_96 2 rfl 97 rfl ?_
      refine z_if_eq F dX6_joined_97 104 (by decide) 100 rfl (fun h97 => ?_) (fun h97 => ?_)
      · skip
        refine z_iconst F dX6_joined_104 0 (by decide) 105 rfl ?_
        refine z_rp F dX6_joined_105 ?_ rfl
        first
          | (simp [twoS, bI, *]; done)
          | (unfold twoS bI; (repeat' split) <;> first | rfl | (exfalso; simp only [Int32.lt_iff_toInt_lt, Int32.le_iff_toInt_le, ← Int32.toInt_inj, Int32.reduceToInt] at *; omega))
      · skip
        refine z_iconst F dX6_joined_100 1 (by decide) 101 rfl ?_
        refine z_goto F dX6_joined_101 105 (by decide) ?_
        refine z_rp F dX6_joined_105 ?_ rfl
        first
          | (simp [twoS, bI, *]; done)
          | (unfold twoS bI; (repeat' split) <;> first | rfl | (exfalso; simp only [Int32.lt_iff_toInt_lt, Int32.le_iff_toInt_le, ← Int32.toInt_inj, Int32.reduceToInt] at *; omega))
  refine z_lookup F dX6_joined_1 (by decide +kernel) (by show Op.lookupswitch.offset [(37, 176), (38, 105), (42, 160), (43, 152), (45, 156), (47, 164), (60, 119), (61, 130), (62, 141), (124, 91)] _ _ = 188; rw [lv_osw (a := 37) e1_37 (by decide), lv_osw (a := 38) e1_38 (by decide), lv_osw (a := 42) e1_42 (by decide), lv_osw (a := 43) e1_43 (by decide), lv_osw (a := 45) e1_45 (by decide), lv_osw (a := 47) e1_47 (by decide), lv_osw (a := 60) e1_60 (by decide), lv_osw (a := 61) e1_61 (by decide), lv_osw (a := 62) e1_62 (by decide), lv_osw (a := 124) e1_124 (by decide)]; rfl) 189 (by decide) ?_
  refine z_iconst F dX6_joined_189 0 (by decide) 190 rfl ?_
  refine z_rp F dX6_joined_190 ?_ rfl
  first
    | (simp [twoS, bI, *]; done)
    | (unfold twoS bI; (repeat' split) <;> first | rfl | (exfalso; simp only [Int32.lt_iff_toInt_lt, Int32.le_iff_toInt_le, ← Int32.toInt_inj, Int32.reduceToInt] at *; omega))
