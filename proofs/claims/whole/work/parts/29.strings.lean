/-! the two strings: their bytes, String.indexOf -/
section STR
variable {l : Launch} {K : z_K} {E : z_E} {S : z_Sh} {d nL : Nat} {P : Option Value → z_M → Prop} {own : String} {cc : ByteArray} {ret : Option FieldType} {pc : Nat} {lv : List (Nat × Value)} {st : List Value} {σ : z_M}
theorem z_ldc0 (F : z_F K E S RX3 cc nL ret) (hd : decode cc pc = .ok (.ldc 23, 2)) (q : Nat) (hq : pc + 2 = q) (kk : z_X l K E S d nL P q lv (.ref (z_ad E (1000 + 0)) :: st) σ) : z_X l K E S d nL P pc lv st σ := by
  subst hq
  exact fun H locs ls hP hSS hl => va_ldcS F.1 F.2.1 F.2.2.2.2.2.1 F.2.2.2.2.2.2.2.2.2.2.2.2.2.1 hd (kk H locs ls hP hSS hl)
theorem z_ldc1 (F : z_F K E S RX3 cc nL ret) (hd : decode cc pc = .ok (.ldc 33, 2)) (q : Nat) (hq : pc + 2 = q) (kk : z_X l K E S d nL P q lv (.ref (z_ad E (1000 + 1)) :: st) σ) : z_X l K E S d nL P pc lv st σ := by
  subst hq
  exact fun H locs ls hP hSS hl => va_ldcS F.1 F.2.1 F.2.2.2.2.2.1 F.2.2.2.2.2.2.2.2.2.2.2.2.2.2 hd (kk H locs ls hP hSS hl)
theorem z_getsC (F : z_F K E S own cc nL ret) {idx : Nat} (hd : decode cc pc = .ok (.getstatic idx, 3)) (hl1 : Cond.fieldLink own idx "java/lang/String" "COMPACT_STRINGS" "Z" ∈ z_tbl) (q : Nat) (hq : pc + 3 = q) (kk : z_X l K E S d nL P q lv (.int 1 :: st) σ) : z_X l K E S d nL P pc lv st σ := by
  subst hq
  exact fun H locs ls hP hSS hl => va_gets F.1 F.2.1 F.2.2.2.2.2.2.2.2.2.2.2.1 hSS F.2.2.2.2.2.1 (F.2.2.2.2.2.2.1 _ hl1) (fun _ h => h) hd (kk H locs ls hP hSS hl)
theorem z_scod (F : z_F K E S own cc nL ret) {idx i : Nat} (hi : i < 2) (hd : decode cc pc = .ok (.getfield idx, 3)) (hl1 : Cond.fieldLink own idx "java/lang/String" "coder" "B" ∈ z_tbl) (q : Nat) (hq : pc + 3 = q) (kk : z_X l K E S d nL P q lv (.int 0 :: st) σ) : z_X l K E S d nL P pc lv (.ref (z_ad E (1000 + i)) :: st) σ := by
  subst hq
  exact fun H locs ls hP hSS hl => vk_getf F.1 F.2.1 (F.2.2.2.2.2.2.2.2.2.2.2.2.1.1 i hi).2.1 hSS F.2.2.2.2.2.1 (F.2.2.2.2.2.2.1 _ hl1) (fun _ h => h) hd (kk H locs ls hP hSS hl)
theorem z_sval (F : z_F K E S own cc nL ret) {idx i : Nat} (hi : i < 2) (hd : decode cc pc = .ok (.getfield idx, 3)) (hl1 : Cond.fieldLink own idx "java/lang/String" "value" "[B" ∈ z_tbl) (q : Nat) (hq : pc + 3 = q) (kk : z_X l K E S d nL P q lv (.ref (z_ad E (1010 + i)) :: st) σ) : z_X l K E S d nL P pc lv (.ref (z_ad E (1000 + i)) :: st) σ := by
  subst hq
  exact fun H locs ls hP hSS hl => vk_getf F.1 F.2.1 (F.2.2.2.2.2.2.2.2.2.2.2.2.1.1 i hi).2.2.1 hSS F.2.2.2.2.2.1 (F.2.2.2.2.2.2.1 _ hl1) (fun _ h => h) hd (kk H locs ls hP hSS hl)
theorem z_slen (F : z_F K E S own cc nL ret) {i : Nat} (hi : i < 2) (hd : decode cc pc = .ok (.arraylength, 1)) (q : Nat) (hq : pc + 1 = q) (kk : z_X l K E S d nL P q lv (.int 3 :: st) σ) : z_X l K E S d nL P pc lv (.ref (z_ad E (1010 + i)) :: st) σ := by
  subst hq
  exact fun H locs ls hP hSS hl => va_tlen F.1 F.2.1 (F.2.2.2.2.2.2.2.2.2.2.2.2.1.1 i hi).2.2.2 hSS (v := 3) (by rcases (show i = 0 ∨ i = 1 by omega) with rfl | rfl <;> rfl) hd (kk H locs ls hP hSS hl)
theorem z_sbyt (F : z_F K E S own cc nL ret) {i j : Nat} (hi : i < 2) (hj : j < 3) (hd : decode cc pc = .ok (.baload, 1)) (q : Nat) (hq : pc + 1 = q) (kk : z_X l K E S d nL P q lv (.int ((z_bytL.getD i []).getD j 0) :: st) σ) : z_X l K E S d nL P pc lv (.int (nI j) :: .ref (z_ad E (1010 + i)) :: st) σ := by
  subst hq
  exact fun H locs ls hP hSS hl => va_tb F.1 F.2.1 (F.2.2.2.2.2.2.2.2.2.2.2.2.1.1 i hi).2.2.2 hSS (i := nI j) (by
    have e : z_lenL.getD i 0 = 3 := by rcases (show i = 0 ∨ i = 1 by omega) with rfl | rfl <;> rfl
    rw [e]; exact vp_in_nI hj (by decide)) (by rw [nI_clamp (by omega)]) hd (kk H locs ls hP hSS hl)
theorem z_rpb (F : z_F K E S own cc nL (some .byte)) {x R : Int32} {G : z_M} (hd : decode cc pc = .ok (.ireturn, 1)) (hn : narrow .byte (.int x) = .int x) (h : x = R) (h2 : σ = G) : z_X l K E S d nL (z_Pp R G) pc lv [.int x] σ :=
  fun _ _ _ hP hS _ => W.zret F.1 F.2.1 F.2.2.2.1 hn (z_qok _ F (show z_Pp R G (some (.int x)) σ from ⟨by rw [h], h2⟩) hP hS) hS.2.2 hd F.2.2.2.2.1
theorem z_callVSp (F : z_F K E S own cc nL ret) {idx d' maxL ar i : Nat} (hi2 : i < 2) {y : MethodName} {bytes : ByteArray} {ret' : Option FieldType} {As rest : List Value} {R : Int32} {G : z_M}
    (hd : decode cc pc = .ok (.invokevirtual idx, 3)) (hl : Cond.methodLink own idx y ∈ z_tbl) (hI : z_I y bytes maxL ret' ar) (hi : Cond.instanceMethod y ∈ z_tbl ∧ Cond.selects y.cls y y ∈ z_tbl) (hn : As.length = ar) (hy : y.cls = "java/lang/String")
    (hC : z_C l E S d' y bytes maxL ret' (.ref (z_ad E (1000 + i)) :: As) σ (z_Pp R G)) (hst : st = As.reverse ++ .ref (z_ad E (1000 + i)) :: rest) (hdd : d' + 1 ≤ d) (hrest : (rest.map fun v => v.category).sum ≤ 8) (q : Nat) (hq : pc + 3 = q)
    (kk : z_X l K E S d nL P q lv (.int R :: rest) G) : z_X l K E S d nL P pc lv st σ := by
  subst hq; subst hst
  intro H locs ls hP hSS hl0
  refine z_after (g := F0 (z_m K) pc ls (As.reverse ++ .ref (z_ad E (1000 + i)) :: rest)) rfl rfl (va_runV (As := As) (rest := rest) (C := y.cls) ⟨F.1, F.2.1, F.2.2.1, F.2.2.2.2.2.1, F.2.2.2.2.2.2.1⟩ hC ⟨z_callB F hI hl hdd, F.2.2.2.2.2.2.1 _ hi.1, F.2.2.2.2.2.2.1 _ hi.2⟩ ⟨z_blind _, ?_, fun U hU hW => ⟨rfl, z_start F hP hSS U hU hW⟩⟩ rfl hn hl0.1 rfl (by show 2 * 0 + _ ≤ 8; omega) hd ⟨Nat.zero_le _, Nat.zero_le _⟩) hSS (fun v σ' hv H1 locs1 hP1 hS1 => by obtain ⟨rfl, rfl⟩ := hv; exact kk H1 locs1 ls hP1 hS1 hl0)
  rw [hy]
  exact vk_recv (i := i) (adK := fun i => z_ad E (1000 + i)) F.2.2.2.2.2.2.2.2.2.2.2.2.1 hi2 hSS
end STR
def nmS (i : Nat) (c : Int32) : Int32 := if c = (z_bytL.getD i []).getD 0 0 then 0 else if c = (z_bytL.getD i []).getD 1 0 then 1 else if c = (z_bytL.getD i []).getD 2 0 then 2 else -1
theorem b8_at : ∀ c, c < 256 → ∀ i, i < 2 → ∀ j, j < 3 → ((z_bytL.getD i []).getD j 0 = (nI c).toInt8.toInt32 ↔ nI c = (z_bytL.getD i []).getD j 0) := by decide +kernel
set_option maxHeartbeats 400000 in
set_option maxRecDepth 10000 in
theorem kJ0_coder_7d493 {l : Launch} {E : z_E} (σ : z_M) {S : z_Sh} {w : Nat} (hS2 : w < 2) : z_C l E S 0 yJ0_coder_7d493 cJ0_coder_7d493 1 (some FieldType.byte) [.ref (z_ad E (1000 + w))] σ (z_Pp 0 σ) := by
  refine z_intro iJ0_coder_7d493 (Nat.le_of_ble_eq_true rfl) (fun K F => ?_)
  refine z_getsC F dJ0_coder_7d493_0 m_549 3 rfl ?_
  refine z_if_eq F dJ0_coder_7d493_3 13 (by decide) 6 rfl (fun h3 => ?_) (fun h3 => ?_)
  · skip
    exact absurd h3 (by decide)
  · skip
    refine z_aload_n F dJ0_coder_7d493_6 0 rfl 7 rfl ?_
    refine z_scod F hS2 dJ0_coder_7d493_7 m_1386 10 rfl ?_
    refine z_goto F dJ0_coder_7d493_10 14 (by decide) ?_
    refine z_rpb F dJ0_coder_7d493_14 rfl ?_ rfl
    rfl
set_option maxHeartbeats 400000 in
set_option maxRecDepth 10000 in
theorem kJ0_isLatin1_aae02 {l : Launch} {E : z_E} (σ : z_M) {S : z_Sh} {w : Nat} (hS2 : w < 2) : z_C l E S 0 yJ0_isLatin1_aae02 cJ0_isLatin1_aae02 1 (some FieldType.boolean) [.ref (z_ad E (1000 + w))] σ (z_Pp (bI True) σ) := by
  refine z_intro iJ0_isLatin1_aae02 (Nat.le_of_ble_eq_true rfl) (fun K F => ?_)
  refine z_getsC F dJ0_isLatin1_aae02_0 m_549 3 rfl ?_
  refine z_if_eq F dJ0_isLatin1_aae02_3 17 (by decide) 6 rfl (fun h3 => ?_) (fun h3 => ?_)
  · skip
    exact absurd h3 (by decide)
  · skip
    refine z_aload_n F dJ0_isLatin1_aae02_6 0 rfl 7 rfl ?_
    refine z_scod F hS2 dJ0_isLatin1_aae02_7 m_1386 10 rfl ?_
    refine z_if_ne F dJ0_isLatin1_aae02_10 17 (by decide) 13 rfl (fun h10 => ?_) (fun h10 => ?_)
    · skip
      exact absurd rfl h10
    · skip
      refine z_iconst F dJ0_isLatin1_aae02_13 1 (by decide) 14 rfl ?_
      refine z_goto F dJ0_isLatin1_aae02_14 18 (by decide) ?_
      refine z_rpz F dJ0_isLatin1_aae02_18 rfl ?_ rfl
      rfl
set_option maxHeartbeats 400000 in
set_option maxRecDepth 10000 in
theorem kJ0_length_8abf5 {l : Launch} {E : z_E} (σ : z_M) {S : z_Sh} {w : Nat} (hS2 : w < 2) : z_C l E S 1 yJ0_length_8abf5 cJ0_length_8abf5 1 (some FieldType.int) [.ref (z_ad E (1000 + w))] σ (z_Pp 3 σ) := by
  refine z_intro iJ0_length_8abf5 (Nat.le_of_ble_eq_true rfl) (fun K F => ?_)
  refine z_aload_n F dJ0_length_8abf5_0 0 rfl 1 rfl ?_
  refine z_sval F hS2 dJ0_length_8abf5_1 m_1387 4 rfl ?_
  refine z_slen F hS2 dJ0_length_8abf5_4 5 rfl ?_
  refine z_aload_n F dJ0_length_8abf5_5 0 rfl 6 rfl ?_
  refine z_callVSp F hS2 dJ0_length_8abf5_6 m_555 iJ0_coder_7d493 jJ0_coder_7d493 rfl rfl (kJ0_coder_7d493 σ hS2) rfl (by decide) (Nat.le_of_ble_eq_true rfl) 9 rfl ?_
  refine z_ishr F dJ0_length_8abf5_9 10 rfl ?_
  refine z_rp F dJ0_length_8abf5_10 ?_ rfl
  rfl
set_option maxHeartbeats 400000 in
set_option maxRecDepth 10000 in
theorem kJ1_canEncode_9a6ad {l : Launch} {E : z_E} (σ : z_M) {S : z_Sh} {c : Nat} (hc : c < 256) : z_C l E S 0 yJ1_canEncode_9a6ad cJ1_canEncode_9a6ad 1 (some FieldType.boolean) [.int (nI c)] σ (z_Pp (bI True) σ) := by
  refine z_intro iJ1_canEncode_9a6ad (Nat.le_of_ble_eq_true rfl) (fun K F => ?_)
  refine z_iload_n F dJ1_canEncode_9a6ad_0 0 rfl 1 rfl ?_
  refine z_if_lt F dJ1_canEncode_9a6ad_1 15 (by decide) 4 rfl (fun h1 => ?_) (fun h1 => ?_)
  · skip
    exact absurd h1 (nI_pos (by omega))
  · skip
    refine z_iload_n F dJ1_canEncode_9a6ad_4 0 rfl 5 rfl ?_
    refine z_sipush F dJ1_canEncode_9a6ad_5 255 (by decide) 8 rfl ?_
    refine z_icmp_gt F dJ1_canEncode_9a6ad_8 15 (by decide) 11 rfl (fun h8 => ?_) (fun h8 => ?_)
    · skip
      exact absurd h8 (nI_nlt (a := 255) (by omega) (by decide))
    · skip
      refine z_iconst F dJ1_canEncode_9a6ad_11 1 (by decide) 12 rfl ?_
      refine z_goto F dJ1_canEncode_9a6ad_12 16 (by decide) ?_
      refine z_rpz F dJ1_canEncode_9a6ad_16 rfl ?_ rfl
      rfl
set_option maxHeartbeats 400000 in
set_option maxRecDepth 10000 in
theorem kJ1_indexOfChar_4cfef {l : Launch} {E : z_E} (σ : z_M) {S : z_Sh} {w : Nat} (hS2 : w < 2) {c : Nat} (hc : c < 256) : z_C l E S 0 yJ1_indexOfChar_4cfef cJ1_indexOfChar_4cfef 6 (some FieldType.int) [.ref (z_ad E (1010 + w)), .int (nI c), .int (nI 0), .int (nI 3)] σ (z_Pp (nmS w (nI c)) σ) := by
  refine z_intro iJ1_indexOfChar_4cfef (Nat.le_of_ble_eq_true rfl) (fun K F => ?_)
  have loop7 : ∀ (f : Nat) (j : Nat) (_ : 3 < j + f) (_ : j ≤ 3) (_ : ∀ k, k < j → ¬ nI c = (z_bytL.getD w []).getD k 0), z_X l K E S 0 6 (z_Pp (nmS w (nI c)) σ) 7 [(0, .ref (z_ad E (1010 + w))), (1, .int (nI c)), (2, .int (nI 0)), (3, .int (nI 3)), (4, .int (nI c).toInt8.toInt32), (5, .int (nI j))] [] σ := by
    intro f
    induction f with
    | zero =>
      intro j hf hj hno
      omega
    | succ f ih =>
      intro j hf hj hno
      refine z_iload F dJ1_indexOfChar_4cfef_7 5 rfl 9 rfl ?_
      refine z_iload_n F dJ1_indexOfChar_4cfef_9 3 rfl 10 rfl ?_
      refine z_icmp_ge F dJ1_indexOfChar_4cfef_10 31 (by decide) 13 rfl (fun h10 => ?_) (fun h10 => ?_)
      · skip
        refine z_iconst F dJ1_indexOfChar_4cfef_31 (-1) (by decide) 32 rfl ?_
        refine z_rp F dJ1_indexOfChar_4cfef_32 ?_ rfl
        have hj3 : j = 3 := by have := le_nI h10 (by decide) (by omega); omega
        subst hj3
        unfold nmS
        rw [if_neg (hno 0 (by decide)), if_neg (hno 1 (by decide)), if_neg (hno 2 (by decide))]
      · skip
        have hj3 : j < 3 := nle_nI h10 (by omega) (by omega)
        refine z_aload_n F dJ1_indexOfChar_4cfef_13 0 rfl 14 rfl ?_
        refine z_iload F dJ1_indexOfChar_4cfef_14 5 rfl 16 rfl ?_
        refine z_sbyt F hS2 hj3 dJ1_indexOfChar_4cfef_16 17 rfl ?_
        refine z_iload F dJ1_indexOfChar_4cfef_17 4 rfl 19 rfl ?_
        refine z_icmp_ne F dJ1_indexOfChar_4cfef_19 25 (by decide) 22 rfl (fun h19 => ?_) (fun h19 => ?_)
        · skip
          refine z_iinc F dJ1_indexOfChar_4cfef_25 5 rfl 1 (by decide) [(0, _), (1, _), (2, _), (3, _), (4, _), (5, _)] rfl (by decide) 28 rfl ?_
          refine z_goto F dJ1_indexOfChar_4cfef_28 7 (by decide) ?_
          rw [nI_1]
          exact ih (j + 1) (by omega) (by omega) (fun k hk => by
            rcases Nat.lt_or_ge k j with z | z
            · exact hno k z
            · have : k = j := by omega
              subst this; exact fun q => h19 ((b8_at c hc w hS2 k hj3).mpr q))
        · skip
          refine z_iload F dJ1_indexOfChar_4cfef_22 5 rfl 24 rfl ?_
          refine z_rp F dJ1_indexOfChar_4cfef_24 ?_ rfl
          have hb := (b8_at c hc w hS2 j hj3).mp h19
          unfold nmS
          rcases (show j = 0 ∨ j = 1 ∨ j = 2 by omega) with rfl | rfl | rfl
          · rw [if_pos hb]; rfl
          · rw [if_neg (hno 0 (by decide)), if_pos hb]; rfl
          · rw [if_neg (hno 0 (by decide)), if_neg (hno 1 (by decide)), if_pos hb]; rfl
  refine z_iload_n F dJ1_indexOfChar_4cfef_0 1 rfl 1 rfl ?_
  refine z_i2b F dJ1_indexOfChar_4cfef_1 2 rfl ?_
  refine z_istore F dJ1_indexOfChar_4cfef_2 [(0, _), (1, _), (2, _), (3, _), (4, _)] rfl (by decide) 4 rfl ?_
  refine z_iload_n F dJ1_indexOfChar_4cfef_4 2 rfl 5 rfl ?_
  refine z_istore F dJ1_indexOfChar_4cfef_5 [(0, _), (1, _), (2, _), (3, _), (4, _), (5, _)] rfl (by decide) 7 rfl ?_
  exact loop7 4 0 (by omega) (by omega) (fun k hk => by omega)
set_option maxHeartbeats 400000 in
set_option maxRecDepth 10000 in
theorem kJ1_indexOf_4cfef {l : Launch} {E : z_E} (σ : z_M) {S : z_Sh} {w : Nat} (hS2 : w < 2) {c : Nat} (hc : c < 256) : z_C l E S 1 yJ1_indexOf_4cfef cJ1_indexOf_4cfef 4 (some FieldType.int) [.ref (z_ad E (1010 + w)), .int (nI c), .int (nI 0), .int (nI 3)] σ (z_Pp (nmS w (nI c)) σ) := by
  refine z_intro iJ1_indexOf_4cfef (Nat.le_of_ble_eq_true rfl) (fun K F => ?_)
  refine z_iload_n F dJ1_indexOf_4cfef_0 1 rfl 1 rfl ?_
  refine z_callSp F dJ1_indexOf_4cfef_1 m_562 iJ1_canEncode_9a6ad m_563 rfl (kJ1_canEncode_9a6ad σ hc) rfl (by decide) (Nat.le_of_ble_eq_true rfl) 4 rfl ?_
  refine z_if_ne F dJ1_indexOf_4cfef_4 9 (by decide) 7 rfl (fun h4 => ?_) (fun h4 => ?_)
  · skip
    have h4 := bI1.mp h4
    refine z_iload_n F dJ1_indexOf_4cfef_9 2 rfl 10 rfl ?_
    refine z_iconst F dJ1_indexOf_4cfef_10 0 (by decide) 11 rfl ?_
    refine z_max F dJ1_indexOf_4cfef_11 m_565 m_179 m_76 m_180 (by decide) (Nat.le_of_ble_eq_true rfl) 14 rfl ?_
    rw [if_neg (show ¬ nI 0 < (0 : Int32) by decide)]
    refine z_istore_n F dJ1_indexOf_4cfef_14 [(0, _), (1, _), (2, _), (3, _)] rfl (by decide) 15 rfl ?_
    refine z_iload_n F dJ1_indexOf_4cfef_15 3 rfl 16 rfl ?_
    refine z_aload_n F dJ1_indexOf_4cfef_16 0 rfl 17 rfl ?_
    refine z_slen F hS2 dJ1_indexOf_4cfef_17 18 rfl ?_
    refine z_min F dJ1_indexOf_4cfef_18 m_566 m_364 m_76 m_365 (by decide) (Nat.le_of_ble_eq_true rfl) 21 rfl ?_
    rw [if_neg (show ¬ (3 : Int32) < nI 3 by decide)]
    refine z_istore_n F dJ1_indexOf_4cfef_21 [(0, _), (1, _), (2, _), (3, _)] rfl (by decide) 22 rfl ?_
    refine z_iload_n F dJ1_indexOf_4cfef_22 2 rfl 23 rfl ?_
    refine z_iload_n F dJ1_indexOf_4cfef_23 3 rfl 24 rfl ?_
    refine z_icmp_lt F dJ1_indexOf_4cfef_24 29 (by decide) 27 rfl (fun h24 => ?_) (fun h24 => ?_)
    · skip
      refine z_aload_n F dJ1_indexOf_4cfef_29 0 rfl 30 rfl ?_
      refine z_iload_n F dJ1_indexOf_4cfef_30 1 rfl 31 rfl ?_
      refine z_iload_n F dJ1_indexOf_4cfef_31 2 rfl 32 rfl ?_
      refine z_iload_n F dJ1_indexOf_4cfef_32 3 rfl 33 rfl ?_
      refine z_callSp F dJ1_indexOf_4cfef_33 m_567 iJ1_indexOfChar_4cfef m_568 rfl (kJ1_indexOfChar_4cfef σ hS2 hc) rfl (by decide) (Nat.le_of_ble_eq_true rfl) 36 rfl ?_
      refine z_rp F dJ1_indexOf_4cfef_36 ?_ rfl
      rfl
    · skip
      exact absurd (by decide) h24
  · skip
    have h4 := bI0.mp h4
    exact absurd trivial h4
set_option maxHeartbeats 400000 in
set_option maxRecDepth 10000 in
theorem kJ0_indexOf_7cf53 {l : Launch} {E : z_E} (σ : z_M) {S : z_Sh} {w : Nat} (hS2 : w < 2) {c : Nat} (hc : c < 256) : z_C l E S 2 yJ0_indexOf_7cf53 cJ0_indexOf_7cf53 3 (some FieldType.int) [.ref (z_ad E (1000 + w)), .int (nI c), .int (nI 0)] σ (z_Pp (nmS w (nI c)) σ) := by
  refine z_intro iJ0_indexOf_7cf53 (Nat.le_of_ble_eq_true rfl) (fun K F => ?_)
  refine z_aload_n F dJ0_indexOf_7cf53_0 0 rfl 1 rfl ?_
  refine z_callVSp F hS2 dJ0_indexOf_7cf53_1 m_545 iJ0_isLatin1_aae02 jJ0_isLatin1_aae02 rfl rfl (kJ0_isLatin1_aae02 σ hS2) rfl (by decide) (Nat.le_of_ble_eq_true rfl) 4 rfl ?_
  refine z_if_eq F dJ0_indexOf_7cf53_4 23 (by decide) 7 rfl (fun h4 => ?_) (fun h4 => ?_)
  · skip
    have h4 := bI0.mp h4
    exact absurd trivial h4
  · skip
    have h4 := bI1.mp h4
    refine z_aload_n F dJ0_indexOf_7cf53_7 0 rfl 8 rfl ?_
    refine z_sval F hS2 dJ0_indexOf_7cf53_8 m_1387 11 rfl ?_
    refine z_iload_n F dJ0_indexOf_7cf53_11 1 rfl 12 rfl ?_
    refine z_iload_n F dJ0_indexOf_7cf53_12 2 rfl 13 rfl ?_
    refine z_aload_n F dJ0_indexOf_7cf53_13 0 rfl 14 rfl ?_
    refine z_callVSp F hS2 dJ0_indexOf_7cf53_14 m_551 iJ0_length_8abf5 jJ0_length_8abf5 rfl rfl (kJ0_length_8abf5 σ hS2) rfl (by decide) (Nat.le_of_ble_eq_true rfl) 17 rfl ?_
    refine z_callSp F dJ0_indexOf_7cf53_17 m_559 iJ1_indexOf_4cfef m_560 rfl (kJ1_indexOf_4cfef σ hS2 hc) rfl (by decide) (Nat.le_of_ble_eq_true rfl) 20 rfl ?_
    refine z_goto F dJ0_indexOf_7cf53_20 36 (by decide) ?_
    refine z_rp F dJ0_indexOf_7cf53_36 ?_ rfl
    rfl
set_option maxHeartbeats 400000 in
set_option maxRecDepth 10000 in
theorem kJ0_indexOf_0f7a4 {l : Launch} {E : z_E} (σ : z_M) {S : z_Sh} {w : Nat} (hS2 : w < 2) {c : Nat} (hc : c < 256) : z_C l E S 3 yJ0_indexOf_0f7a4 cJ0_indexOf_0f7a4 2 (some FieldType.int) [.ref (z_ad E (1000 + w)), .int (nI c)] σ (z_Pp (nmS w (nI c)) σ) := by
  refine z_intro iJ0_indexOf_0f7a4 (Nat.le_of_ble_eq_true rfl) (fun K F => ?_)
  refine z_aload_n F dJ0_indexOf_0f7a4_0 0 rfl 1 rfl ?_
  refine z_iload_n F dJ0_indexOf_0f7a4_1 1 rfl 2 rfl ?_
  refine z_iconst F dJ0_indexOf_0f7a4_2 0 (by decide) 3 rfl ?_
  refine z_callVSp F hS2 dJ0_indexOf_0f7a4_3 m_541 iJ0_indexOf_7cf53 jJ0_indexOf_7cf53 rfl rfl (kJ0_indexOf_7cf53 σ hS2 hc) rfl (by decide) (Nat.le_of_ble_eq_true rfl) 6 rfl ?_
  refine z_rp F dJ0_indexOf_0f7a4_6 ?_ rfl
  rfl
