/-! constructors -/
set_option maxHeartbeats 1000000 in
set_option maxRecDepth 10000 in
theorem cX4_new {l : Launch} {D : va_G} {cI : ClassId} {sa h : Nat} (n : Int32) (N : Nat) (hn : ¬ n < 0) (hN : n.toNatClampNeg = N) (hb : N * 4 ≤ 536870912) : g_M (S := Nat → Nat) l D cI sa 1 yX4_init cX4_init 2 [.ref h, .int n] [(h, .inr (3, [.null, .int 0]))] 1 N (fun u => [(h, .inr (3, [.ref (u 1), .int 0])), (u 1, .inl (cI, N, .inl (fun _ => 0)))]) (fun _ => [(cI, .int)]) := by
  refine g_intro (by decide) rfl (Nat.le_of_ble_eq_true rfl) (fun K A F hin hr => ?_)
  refine g_aload_n F dX4_init_0 0 rfl 1 rfl ?_
  refine g_objInit F dX4_init_1 m_177 (Nat.le_of_ble_eq_true rfl) (Nat.le_of_ble_eq_true rfl) 4 rfl ?_
  refine g_aload_n F dX4_init_4 0 rfl 5 rfl ?_
  refine g_iload_n F dX4_init_5 1 rfl 6 rfl ?_
  refine g_iconst F dX4_init_6 0 (by decide) 7 rfl ?_
  refine g_max F dX4_init_7 m_178 m_179 m_76 m_180 (Nat.le_of_ble_eq_true rfl) (Nat.le_of_ble_eq_true rfl) (Nat.zero_le _) (Nat.zero_le _) 10 rfl ?_
  rw [if_neg hn]
  refine g_newa F dX4_init_10 N hn hN hb (Nat.le_of_ble_eq_true rfl) (by show 0 + N ≤ N; omega) rfl 12 rfl (fun a => ?_)
  refine g_putF F hin zc3 dX4_init_12 0 rfl 0 (by decide) m_181 rfl rfl (tyX4_ok 0 (by decide)) rfl rfl (Nat.le_of_ble_eq_true rfl) 15 rfl ?_
  refine g_aload_n F dX4_init_15 0 rfl 16 rfl ?_
  refine g_iconst F dX4_init_16 0 (by decide) 17 rfl ?_
  refine g_put F zc3 dX4_init_17 0 rfl 1 (by decide) m_182 rfl (tyX4_ok 1 (by decide)) rfl rfl (Nat.le_of_ble_eq_true rfl) 20 rfl ?_
  rw [Nat.zero_add, Nat.zero_add]
  exact g_ret F hr dX4_init_20 (fun k => [h, a].getD k 0) [0, 1] rfl rfl rfl [0] rfl
def gX6_W (cI : ClassId) (h : Nat) (u : Nat → Nat) : va_W := [(h, .inr (5, [.ref (u 1), .ref (u 3)])), (u 1, .inr (3, [.ref (u 2), .int 0])), (u 2, .inl (cI, 60, .inl (fun _ => 0))), (u 3, .inl (cI, 60, .inl (fun _ => 0)))]
set_option maxHeartbeats 4000000 in
set_option maxRecDepth 20000 in
theorem cX6_new {l : Launch} {D : va_G} {cI : ClassId} {sa h : Nat} : g_M (S := Nat → Nat) l D cI sa 2 yX6_init cX6_init 1 [.ref h] [(h, .inr (5, [.null, .null]))] 3 122 (fun u => gX6_W cI h u) (fun u => [(cI, .int)]) := by
  refine g_intro (by decide) rfl (Nat.le_of_ble_eq_true rfl) (fun K A F hin hr => ?_)
  refine g_aload_n F dX6_init_0 0 rfl 1 rfl ?_
  refine g_objInit F dX6_init_1 m_171 (Nat.le_of_ble_eq_true rfl) (Nat.le_of_ble_eq_true rfl) 4 rfl ?_
  refine g_aload_n F dX6_init_4 0 rfl 5 rfl ?_
  refine g_new F zc3 dX6_init_5 m_172 m_173 m_75 tyX4 tyX4_ok [.null, .int 0] (fun j hj => by rcases (show j = 0 ∨ j = 1 by omega) with rfl | rfl <;> rfl) (Nat.le_of_ble_eq_true rfl) (Nat.le_of_ble_eq_true rfl) 8 rfl (fun a5_4 => ?_)
  refine g_w (ws' := [(h, .inr (5, [.null, .null])), (a5_4, .inr (3, [.null, .int 0]))]) rfl ?_
  refine g_dup F dX6_init_8 rfl 9 rfl ?_
  refine g_bipush F dX6_init_9 60 (by decide) 11 rfl ?_
  refine g_callI F dX6_init_11 m_174 iX4_init m_175 rfl rfl (cX4_new 60 60 (by decide) (by decide) (Nat.le_of_ble_eq_true rfl)) rfl (Nat.le_of_ble_eq_true rfl) (Nat.le_of_ble_eq_true rfl) (Nat.le_of_ble_eq_true rfl) (Nat.le_of_ble_eq_true rfl) (Nat.le_of_ble_eq_true rfl) 1 rfl [0] [(h, .inr (5, [.null, .null]))] rfl rfl (by decide) rfl 14 rfl (fun u11_7 => ?_)
  refine g_t [0] rfl ?_
  refine g_w (ws' := [(h, .inr (5, [.null, .null])), (a5_4, .inr (3, [.ref (u11_7 1), .int 0])), (u11_7 1, .inl (cI, 60, .inl (fun _ => 0)))]) rfl ?_
  refine g_putF F hin zc5 dX6_init_14 0 rfl 0 (by decide) m_188 rfl rfl (tyX6_ok 0 (by decide)) rfl rfl (Nat.le_of_ble_eq_true rfl) 17 rfl ?_
  refine g_w (ws' := [(h, .inr (5, [.ref a5_4, .null])), (a5_4, .inr (3, [.ref (u11_7 1), .int 0])), (u11_7 1, .inl (cI, 60, .inl (fun _ => 0)))]) rfl ?_
  refine g_aload_n F dX6_init_17 0 rfl 18 rfl ?_
  refine g_bipush F dX6_init_18 60 (by decide) 20 rfl ?_
  refine g_newa F dX6_init_20 60 (by decide) (by decide) (Nat.le_of_ble_eq_true rfl) (Nat.le_of_ble_eq_true rfl) (Nat.le_of_ble_eq_true rfl) rfl 22 rfl (fun a20_11 => ?_)
  refine g_w (ws' := [(h, .inr (5, [.ref a5_4, .null])), (a5_4, .inr (3, [.ref (u11_7 1), .int 0])), (u11_7 1, .inl (cI, 60, .inl (fun _ => 0))), (a20_11, .inl (cI, 60, .inl (fun _ => 0)))]) rfl ?_
  refine g_putF F hin zc5 dX6_init_22 0 rfl 1 (by decide) m_191 rfl rfl (tyX6_ok 1 (by decide)) rfl rfl (Nat.le_of_ble_eq_true rfl) 25 rfl ?_
  refine g_w (ws' := [(h, .inr (5, [.ref a5_4, .ref a20_11])), (a5_4, .inr (3, [.ref (u11_7 1), .int 0])), (u11_7 1, .inl (cI, 60, .inl (fun _ => 0))), (a20_11, .inl (cI, 60, .inl (fun _ => 0)))]) rfl ?_
  exact g_ret F hr dX6_init_25 (fun k => [h, a5_4, (u11_7 1), a20_11].getD k 0) [0, 1, 2, 3] rfl rfl rfl [0] rfl
def gX0_W (cI : ClassId) (h : Nat) (u : Nat → Nat) : va_W := [(h, .inr (0, [.int 0, .int 100, .int 5, .ref (u 1)])), (u 1, .inl (cI, 8, .inl (fun _ => 0)))]
set_option maxHeartbeats 4000000 in
set_option maxRecDepth 20000 in
theorem cX0_new {l : Launch} {D : va_G} {cI : ClassId} {sa h : Nat} : g_M (S := Nat → Nat) l D cI sa 1 yX0_init cX0_init 1 [.ref h] [(h, .inr (0, [.int 0, .int 0, .int 0, .null]))] 1 8 (fun u => gX0_W cI h u) (fun u => [(cI, .int)]) := by
  refine g_intro (by decide) rfl (Nat.le_of_ble_eq_true rfl) (fun K A F hin hr => ?_)
  refine g_aload_n F dX0_init_0 0 rfl 1 rfl ?_
  refine g_objInit F dX0_init_1 m_143 (Nat.le_of_ble_eq_true rfl) (Nat.le_of_ble_eq_true rfl) 4 rfl ?_
  refine g_aload_n F dX0_init_4 0 rfl 5 rfl ?_
  refine g_iconst F dX0_init_5 0 (by decide) 6 rfl ?_
  refine g_put F zc0 dX0_init_6 0 rfl 0 (by decide) m_144 rfl (tyX0_ok 0 (by decide)) rfl rfl (Nat.le_of_ble_eq_true rfl) 9 rfl ?_
  refine g_w (ws' := [(h, .inr (0, [.int 0, .int 0, .int 0, .null]))]) rfl ?_
  refine g_aload_n F dX0_init_9 0 rfl 10 rfl ?_
  refine g_bipush F dX0_init_10 100 (by decide) 12 rfl ?_
  refine g_put F zc0 dX0_init_12 0 rfl 1 (by decide) m_147 rfl (tyX0_ok 1 (by decide)) rfl rfl (Nat.le_of_ble_eq_true rfl) 15 rfl ?_
  refine g_w (ws' := [(h, .inr (0, [.int 0, .int 100, .int 0, .null]))]) rfl ?_
  refine g_aload_n F dX0_init_15 0 rfl 16 rfl ?_
  refine g_iconst F dX0_init_16 5 (by decide) 17 rfl ?_
  refine g_put F zc0 dX0_init_17 0 rfl 2 (by decide) m_150 rfl (tyX0_ok 2 (by decide)) rfl rfl (Nat.le_of_ble_eq_true rfl) 20 rfl ?_
  refine g_w (ws' := [(h, .inr (0, [.int 0, .int 100, .int 5, .null]))]) rfl ?_
  refine g_aload_n F dX0_init_20 0 rfl 21 rfl ?_
  refine g_bipush F dX0_init_21 8 (by decide) 23 rfl ?_
  refine g_newa F dX0_init_23 8 (by decide) (by decide) (Nat.le_of_ble_eq_true rfl) (Nat.le_of_ble_eq_true rfl) (Nat.le_of_ble_eq_true rfl) rfl 25 rfl (fun a23_14 => ?_)
  refine g_w (ws' := [(h, .inr (0, [.int 0, .int 100, .int 5, .null])), (a23_14, .inl (cI, 8, .inl (fun _ => 0)))]) rfl ?_
  refine g_putF F hin zc0 dX0_init_25 0 rfl 3 (by decide) m_153 rfl rfl (tyX0_ok 3 (by decide)) rfl rfl (Nat.le_of_ble_eq_true rfl) 28 rfl ?_
  refine g_w (ws' := [(h, .inr (0, [.int 0, .int 100, .int 5, .ref a23_14])), (a23_14, .inl (cI, 8, .inl (fun _ => 0)))]) rfl ?_
  exact g_ret F hr dX0_init_28 (fun k => [h, a23_14].getD k 0) [0, 1] rfl rfl rfl [0] rfl
def gX1_W (cI : ClassId) (h : Nat) (u : Nat → Nat) : va_W := [(h, .inr (1, [.int 0, .ref (u 1), .ref (u 2), .ref (u 3), .ref (u 4), .ref (u 5)])), (u 1, .inl (cI, 8, .inl (fun _ => 0))), (u 2, .inl (cI, 8, .inl (fun _ => 0))), (u 3, .inl (cI, 8, .inl (fun _ => 0))), (u 4, .inl (cI, 8, .inl (fun _ => 0))), (u 5, .inl (cI, 64, .inl (fun _ => 0)))]
set_option maxHeartbeats 4000000 in
set_option maxRecDepth 20000 in
theorem cX1_new {l : Launch} {D : va_G} {cI : ClassId} {sa h : Nat} : g_M (S := Nat → Nat) l D cI sa 1 yX1_init cX1_init 1 [.ref h] [(h, .inr (1, [.int 0, .null, .null, .null, .null, .null]))] 5 96 (fun u => gX1_W cI h u) (fun u => [(cI, .int)]) := by
  refine g_intro (by decide) rfl (Nat.le_of_ble_eq_true rfl) (fun K A F hin hr => ?_)
  refine g_aload_n F dX1_init_0 0 rfl 1 rfl ?_
  refine g_objInit F dX1_init_1 m_108 (Nat.le_of_ble_eq_true rfl) (Nat.le_of_ble_eq_true rfl) 4 rfl ?_
  refine g_aload_n F dX1_init_4 0 rfl 5 rfl ?_
  refine g_iconst F dX1_init_5 0 (by decide) 6 rfl ?_
  refine g_put F zc1 dX1_init_6 0 rfl 0 (by decide) m_109 rfl (tyX1_ok 0 (by decide)) rfl rfl (Nat.le_of_ble_eq_true rfl) 9 rfl ?_
  refine g_w (ws' := [(h, .inr (1, [.int 0, .null, .null, .null, .null, .null]))]) rfl ?_
  refine g_aload_n F dX1_init_9 0 rfl 10 rfl ?_
  refine g_bipush F dX1_init_10 8 (by decide) 12 rfl ?_
  refine g_newa F dX1_init_12 8 (by decide) (by decide) (Nat.le_of_ble_eq_true rfl) (Nat.le_of_ble_eq_true rfl) (Nat.le_of_ble_eq_true rfl) rfl 14 rfl (fun a12_8 => ?_)
  refine g_w (ws' := [(h, .inr (1, [.int 0, .null, .null, .null, .null, .null])), (a12_8, .inl (cI, 8, .inl (fun _ => 0)))]) rfl ?_
  refine g_putF F hin zc1 dX1_init_14 0 rfl 1 (by decide) m_112 rfl rfl (tyX1_ok 1 (by decide)) rfl rfl (Nat.le_of_ble_eq_true rfl) 17 rfl ?_
  refine g_w (ws' := [(h, .inr (1, [.int 0, .ref a12_8, .null, .null, .null, .null])), (a12_8, .inl (cI, 8, .inl (fun _ => 0)))]) rfl ?_
  refine g_aload_n F dX1_init_17 0 rfl 18 rfl ?_
  refine g_bipush F dX1_init_18 8 (by decide) 20 rfl ?_
  refine g_newa F dX1_init_20 8 (by decide) (by decide) (Nat.le_of_ble_eq_true rfl) (Nat.le_of_ble_eq_true rfl) (Nat.le_of_ble_eq_true rfl) rfl 22 rfl (fun a20_12 => ?_)
  refine g_w (ws' := [(h, .inr (1, [.int 0, .ref a12_8, .null, .null, .null, .null])), (a12_8, .inl (cI, 8, .inl (fun _ => 0))), (a20_12, .inl (cI, 8, .inl (fun _ => 0)))]) rfl ?_
  refine g_putF F hin zc1 dX1_init_22 0 rfl 2 (by decide) m_115 rfl rfl (tyX1_ok 2 (by decide)) rfl rfl (Nat.le_of_ble_eq_true rfl) 25 rfl ?_
  refine g_w (ws' := [(h, .inr (1, [.int 0, .ref a12_8, .ref a20_12, .null, .null, .null])), (a12_8, .inl (cI, 8, .inl (fun _ => 0))), (a20_12, .inl (cI, 8, .inl (fun _ => 0)))]) rfl ?_
  refine g_aload_n F dX1_init_25 0 rfl 26 rfl ?_
  refine g_bipush F dX1_init_26 8 (by decide) 28 rfl ?_
  refine g_newa F dX1_init_28 8 (by decide) (by decide) (Nat.le_of_ble_eq_true rfl) (Nat.le_of_ble_eq_true rfl) (Nat.le_of_ble_eq_true rfl) rfl 30 rfl (fun a28_16 => ?_)
  refine g_w (ws' := [(h, .inr (1, [.int 0, .ref a12_8, .ref a20_12, .null, .null, .null])), (a12_8, .inl (cI, 8, .inl (fun _ => 0))), (a20_12, .inl (cI, 8, .inl (fun _ => 0))), (a28_16, .inl (cI, 8, .inl (fun _ => 0)))]) rfl ?_
  refine g_putF F hin zc1 dX1_init_30 0 rfl 3 (by decide) m_118 rfl rfl (tyX1_ok 3 (by decide)) rfl rfl (Nat.le_of_ble_eq_true rfl) 33 rfl ?_
  refine g_w (ws' := [(h, .inr (1, [.int 0, .ref a12_8, .ref a20_12, .ref a28_16, .null, .null])), (a12_8, .inl (cI, 8, .inl (fun _ => 0))), (a20_12, .inl (cI, 8, .inl (fun _ => 0))), (a28_16, .inl (cI, 8, .inl (fun _ => 0)))]) rfl ?_
  refine g_aload_n F dX1_init_33 0 rfl 34 rfl ?_
  refine g_bipush F dX1_init_34 8 (by decide) 36 rfl ?_
  refine g_newa F dX1_init_36 8 (by decide) (by decide) (Nat.le_of_ble_eq_true rfl) (Nat.le_of_ble_eq_true rfl) (Nat.le_of_ble_eq_true rfl) rfl 38 rfl (fun a36_20 => ?_)
  refine g_w (ws' := [(h, .inr (1, [.int 0, .ref a12_8, .ref a20_12, .ref a28_16, .null, .null])), (a12_8, .inl (cI, 8, .inl (fun _ => 0))), (a20_12, .inl (cI, 8, .inl (fun _ => 0))), (a28_16, .inl (cI, 8, .inl (fun _ => 0))), (a36_20, .inl (cI, 8, .inl (fun _ => 0)))]) rfl ?_
  refine g_putF F hin zc1 dX1_init_38 0 rfl 4 (by decide) m_121 rfl rfl (tyX1_ok 4 (by decide)) rfl rfl (Nat.le_of_ble_eq_true rfl) 41 rfl ?_
  refine g_w (ws' := [(h, .inr (1, [.int 0, .ref a12_8, .ref a20_12, .ref a28_16, .ref a36_20, .null])), (a12_8, .inl (cI, 8, .inl (fun _ => 0))), (a20_12, .inl (cI, 8, .inl (fun _ => 0))), (a28_16, .inl (cI, 8, .inl (fun _ => 0))), (a36_20, .inl (cI, 8, .inl (fun _ => 0)))]) rfl ?_
  refine g_aload_n F dX1_init_41 0 rfl 42 rfl ?_
  refine g_bipush F dX1_init_42 64 (by decide) 44 rfl ?_
  refine g_newa F dX1_init_44 64 (by decide) (by decide) (Nat.le_of_ble_eq_true rfl) (Nat.le_of_ble_eq_true rfl) (Nat.le_of_ble_eq_true rfl) rfl 46 rfl (fun a44_24 => ?_)
  refine g_w (ws' := [(h, .inr (1, [.int 0, .ref a12_8, .ref a20_12, .ref a28_16, .ref a36_20, .null])), (a12_8, .inl (cI, 8, .inl (fun _ => 0))), (a20_12, .inl (cI, 8, .inl (fun _ => 0))), (a28_16, .inl (cI, 8, .inl (fun _ => 0))), (a36_20, .inl (cI, 8, .inl (fun _ => 0))), (a44_24, .inl (cI, 64, .inl (fun _ => 0)))]) rfl ?_
  refine g_putF F hin zc1 dX1_init_46 0 rfl 5 (by decide) m_123 rfl rfl (tyX1_ok 5 (by decide)) rfl rfl (Nat.le_of_ble_eq_true rfl) 49 rfl ?_
  refine g_w (ws' := [(h, .inr (1, [.int 0, .ref a12_8, .ref a20_12, .ref a28_16, .ref a36_20, .ref a44_24])), (a12_8, .inl (cI, 8, .inl (fun _ => 0))), (a20_12, .inl (cI, 8, .inl (fun _ => 0))), (a28_16, .inl (cI, 8, .inl (fun _ => 0))), (a36_20, .inl (cI, 8, .inl (fun _ => 0))), (a44_24, .inl (cI, 64, .inl (fun _ => 0)))]) rfl ?_
  exact g_ret F hr dX1_init_49 (fun k => [h, a12_8, a20_12, a28_16, a36_20, a44_24].getD k 0) [0, 1, 2, 3, 4, 5] rfl rfl rfl [0] rfl
def gX5_W (cI : ClassId) (h : Nat) (u : Nat → Nat) : va_W := [(h, .inr (4, [.ref (u 1), .int 0])), (u 1, .inr (3, [.ref (u 2), .int 0])), (u 2, .inl (cI, 24, .inl (fun _ => 0)))]
set_option maxHeartbeats 4000000 in
set_option maxRecDepth 20000 in
theorem cX5_new {l : Launch} {D : va_G} {cI : ClassId} {sa h : Nat} : g_M (S := Nat → Nat) l D cI sa 2 yX5_init cX5_init 1 [.ref h] [(h, .inr (4, [.null, .int 0]))] 2 26 (fun u => gX5_W cI h u) (fun u => [(cI, .int)]) := by
  refine g_intro (by decide) rfl (Nat.le_of_ble_eq_true rfl) (fun K A F hin hr => ?_)
  refine g_aload_n F dX5_init_0 0 rfl 1 rfl ?_
  refine g_objInit F dX5_init_1 m_290 (Nat.le_of_ble_eq_true rfl) (Nat.le_of_ble_eq_true rfl) 4 rfl ?_
  refine g_aload_n F dX5_init_4 0 rfl 5 rfl ?_
  refine g_new F zc3 dX5_init_5 m_291 m_173 m_75 tyX4 tyX4_ok [.null, .int 0] (fun j hj => by rcases (show j = 0 ∨ j = 1 by omega) with rfl | rfl <;> rfl) (Nat.le_of_ble_eq_true rfl) (Nat.le_of_ble_eq_true rfl) 8 rfl (fun a5_4 => ?_)
  refine g_w (ws' := [(h, .inr (4, [.null, .int 0])), (a5_4, .inr (3, [.null, .int 0]))]) rfl ?_
  refine g_dup F dX5_init_8 rfl 9 rfl ?_
  refine g_bipush F dX5_init_9 24 (by decide) 11 rfl ?_
  refine g_callI F dX5_init_11 m_292 iX4_init m_175 rfl rfl (cX4_new 24 24 (by decide) (by decide) (Nat.le_of_ble_eq_true rfl)) rfl (Nat.le_of_ble_eq_true rfl) (Nat.le_of_ble_eq_true rfl) (Nat.le_of_ble_eq_true rfl) (Nat.le_of_ble_eq_true rfl) (Nat.le_of_ble_eq_true rfl) 1 rfl [0] [(h, .inr (4, [.null, .int 0]))] rfl rfl (by decide) rfl 14 rfl (fun u11_7 => ?_)
  refine g_t [0] rfl ?_
  refine g_w (ws' := [(h, .inr (4, [.null, .int 0])), (a5_4, .inr (3, [.ref (u11_7 1), .int 0])), (u11_7 1, .inl (cI, 24, .inl (fun _ => 0)))]) rfl ?_
  refine g_putF F hin zc4 dX5_init_14 0 rfl 0 (by decide) m_293 rfl rfl (tyX5_ok 0 (by decide)) rfl rfl (Nat.le_of_ble_eq_true rfl) 17 rfl ?_
  refine g_w (ws' := [(h, .inr (4, [.ref a5_4, .int 0])), (a5_4, .inr (3, [.ref (u11_7 1), .int 0])), (u11_7 1, .inl (cI, 24, .inl (fun _ => 0)))]) rfl ?_
  refine g_aload_n F dX5_init_17 0 rfl 18 rfl ?_
  refine g_iconst F dX5_init_18 0 (by decide) 19 rfl ?_
  refine g_put F zc4 dX5_init_19 0 rfl 1 (by decide) m_295 rfl (tyX5_ok 1 (by decide)) rfl rfl (Nat.le_of_ble_eq_true rfl) 22 rfl ?_
  refine g_w (ws' := [(h, .inr (4, [.ref a5_4, .int 0])), (a5_4, .inr (3, [.ref (u11_7 1), .int 0])), (u11_7 1, .inl (cI, 24, .inl (fun _ => 0)))]) rfl ?_
  exact g_ret F hr dX5_init_22 (fun k => [h, a5_4, (u11_7 1)].getD k 0) [0, 1, 2] rfl rfl rfl [0] rfl
def gX7_W (cI : ClassId) (h : Nat) (u : Nat → Nat) : va_W := [(h, .inr (6, [.ref (u 1), .int 0, .int 0, .int 0, .int 0])), (u 1, .inr (3, [.ref (u 2), .int 0])), (u 2, .inl (cI, 30, .inl (fun _ => 0)))]
set_option maxHeartbeats 4000000 in
set_option maxRecDepth 20000 in
theorem cX7_new {l : Launch} {D : va_G} {cI : ClassId} {sa h : Nat} : g_M (S := Nat → Nat) l D cI sa 2 yX7_init cX7_init 1 [.ref h] [(h, .inr (6, [.null, .int 0, .int 0, .int 0, .int 0]))] 2 32 (fun u => gX7_W cI h u) (fun u => [(cI, .int)]) := by
  refine g_intro (by decide) rfl (Nat.le_of_ble_eq_true rfl) (fun K A F hin hr => ?_)
  refine g_aload_n F dX7_init_0 0 rfl 1 rfl ?_
  refine g_objInit F dX7_init_1 m_263 (Nat.le_of_ble_eq_true rfl) (Nat.le_of_ble_eq_true rfl) 4 rfl ?_
  refine g_aload_n F dX7_init_4 0 rfl 5 rfl ?_
  refine g_new F zc3 dX7_init_5 m_264 m_173 m_75 tyX4 tyX4_ok [.null, .int 0] (fun j hj => by rcases (show j = 0 ∨ j = 1 by omega) with rfl | rfl <;> rfl) (Nat.le_of_ble_eq_true rfl) (Nat.le_of_ble_eq_true rfl) 8 rfl (fun a5_4 => ?_)
  refine g_w (ws' := [(h, .inr (6, [.null, .int 0, .int 0, .int 0, .int 0])), (a5_4, .inr (3, [.null, .int 0]))]) rfl ?_
  refine g_dup F dX7_init_8 rfl 9 rfl ?_
  refine g_bipush F dX7_init_9 30 (by decide) 11 rfl ?_
  refine g_callI F dX7_init_11 m_265 iX4_init m_175 rfl rfl (cX4_new 30 30 (by decide) (by decide) (Nat.le_of_ble_eq_true rfl)) rfl (Nat.le_of_ble_eq_true rfl) (Nat.le_of_ble_eq_true rfl) (Nat.le_of_ble_eq_true rfl) (Nat.le_of_ble_eq_true rfl) (Nat.le_of_ble_eq_true rfl) 1 rfl [0] [(h, .inr (6, [.null, .int 0, .int 0, .int 0, .int 0]))] rfl rfl (by decide) rfl 14 rfl (fun u11_7 => ?_)
  refine g_t [0] rfl ?_
  refine g_w (ws' := [(h, .inr (6, [.null, .int 0, .int 0, .int 0, .int 0])), (a5_4, .inr (3, [.ref (u11_7 1), .int 0])), (u11_7 1, .inl (cI, 30, .inl (fun _ => 0)))]) rfl ?_
  refine g_putF F hin zc6 dX7_init_14 0 rfl 0 (by decide) m_266 rfl rfl (tyX7_ok 0 (by decide)) rfl rfl (Nat.le_of_ble_eq_true rfl) 17 rfl ?_
  refine g_w (ws' := [(h, .inr (6, [.ref a5_4, .int 0, .int 0, .int 0, .int 0])), (a5_4, .inr (3, [.ref (u11_7 1), .int 0])), (u11_7 1, .inl (cI, 30, .inl (fun _ => 0)))]) rfl ?_
  refine g_aload_n F dX7_init_17 0 rfl 18 rfl ?_
  refine g_iconst F dX7_init_18 0 (by decide) 19 rfl ?_
  refine g_put F zc6 dX7_init_19 0 rfl 1 (by decide) m_268 rfl (tyX7_ok 1 (by decide)) rfl rfl (Nat.le_of_ble_eq_true rfl) 22 rfl ?_
  refine g_w (ws' := [(h, .inr (6, [.ref a5_4, .int 0, .int 0, .int 0, .int 0])), (a5_4, .inr (3, [.ref (u11_7 1), .int 0])), (u11_7 1, .inl (cI, 30, .inl (fun _ => 0)))]) rfl ?_
  refine g_aload_n F dX7_init_22 0 rfl 23 rfl ?_
  refine g_iconst F dX7_init_23 0 (by decide) 24 rfl ?_
  refine g_put F zc6 dX7_init_24 0 rfl 2 (by decide) m_269 rfl (tyX7_ok 2 (by decide)) rfl rfl (Nat.le_of_ble_eq_true rfl) 27 rfl ?_
  refine g_w (ws' := [(h, .inr (6, [.ref a5_4, .int 0, .int 0, .int 0, .int 0])), (a5_4, .inr (3, [.ref (u11_7 1), .int 0])), (u11_7 1, .inl (cI, 30, .inl (fun _ => 0)))]) rfl ?_
  refine g_aload_n F dX7_init_27 0 rfl 28 rfl ?_
  refine g_iconst F dX7_init_28 0 (by decide) 29 rfl ?_
  refine g_put F zc6 dX7_init_29 0 rfl 3 (by decide) m_270 rfl (tyX7_ok 3 (by decide)) rfl rfl (Nat.le_of_ble_eq_true rfl) 32 rfl ?_
  refine g_w (ws' := [(h, .inr (6, [.ref a5_4, .int 0, .int 0, .int 0, .int 0])), (a5_4, .inr (3, [.ref (u11_7 1), .int 0])), (u11_7 1, .inl (cI, 30, .inl (fun _ => 0)))]) rfl ?_
  refine g_aload_n F dX7_init_32 0 rfl 33 rfl ?_
  refine g_iconst F dX7_init_33 0 (by decide) 34 rfl ?_
  refine g_put F zc6 dX7_init_34 0 rfl 4 (by decide) m_271 rfl (tyX7_ok 4 (by decide)) rfl rfl (Nat.le_of_ble_eq_true rfl) 37 rfl ?_
  refine g_w (ws' := [(h, .inr (6, [.ref a5_4, .int 0, .int 0, .int 0, .int 0])), (a5_4, .inr (3, [.ref (u11_7 1), .int 0])), (u11_7 1, .inl (cI, 30, .inl (fun _ => 0)))]) rfl ?_
  exact g_ret F hr dX7_init_37 (fun k => [h, a5_4, (u11_7 1)].getD k 0) [0, 1, 2] rfl rfl rfl [0] rfl
def gX3_W (cI : ClassId) (h : Nat) (sa : Nat) (ta : Nat) (u : Nat → Nat) : va_W := [(h, .inr (2, [.ref ta, .ref (u 1), .ref sa, .int 0])), (u 1, .inr (3, [.ref (u 2), .int 0])), (u 2, .inl (cI, 60, .inl (fun _ => 0)))]
set_option maxHeartbeats 4000000 in
set_option maxRecDepth 20000 in
theorem cX3_new {l : Launch} {D : va_G} {cI : ClassId} {sa h : Nat} {ta : Nat} : g_M (S := Nat → Nat) l D cI sa 2 yX3_init cX3_init 2 [.ref h, .ref ta] [(h, .inr (2, [.null, .null, .null, .int 0]))] 2 62 (fun u => gX3_W cI h sa ta u) (fun u => [(cI, .int)]) := by
  refine g_intro (by decide) rfl (Nat.le_of_ble_eq_true rfl) (fun K A F hin hr => ?_)
  refine g_aload_n F dX3_init_0 0 rfl 1 rfl ?_
  refine g_objInit F dX3_init_1 m_239 (Nat.le_of_ble_eq_true rfl) (Nat.le_of_ble_eq_true rfl) 4 rfl ?_
  refine g_aload_n F dX3_init_4 0 rfl 5 rfl ?_
  refine g_aload_n F dX3_init_5 1 rfl 6 rfl ?_
  refine g_putF F hin zc2 dX3_init_6 0 rfl 0 (by decide) m_243 rfl rfl (tyX3_ok 0 (by decide)) rfl rfl (Nat.le_of_ble_eq_true rfl) 9 rfl ?_
  refine g_w (ws' := [(h, .inr (2, [.ref ta, .null, .null, .int 0]))]) rfl ?_
  refine g_aload_n F dX3_init_9 0 rfl 10 rfl ?_
  refine g_new F zc3 dX3_init_10 m_240 m_173 m_75 tyX4 tyX4_ok [.null, .int 0] (fun j hj => by rcases (show j = 0 ∨ j = 1 by omega) with rfl | rfl <;> rfl) (Nat.le_of_ble_eq_true rfl) (Nat.le_of_ble_eq_true rfl) 13 rfl (fun a10_7 => ?_)
  refine g_w (ws' := [(h, .inr (2, [.ref ta, .null, .null, .int 0])), (a10_7, .inr (3, [.null, .int 0]))]) rfl ?_
  refine g_dup F dX3_init_13 rfl 14 rfl ?_
  refine g_bipush F dX3_init_14 60 (by decide) 16 rfl ?_
  refine g_callI F dX3_init_16 m_241 iX4_init m_175 rfl rfl (cX4_new 60 60 (by decide) (by decide) (Nat.le_of_ble_eq_true rfl)) rfl (Nat.le_of_ble_eq_true rfl) (Nat.le_of_ble_eq_true rfl) (Nat.le_of_ble_eq_true rfl) (Nat.le_of_ble_eq_true rfl) (Nat.le_of_ble_eq_true rfl) 1 rfl [0] [(h, .inr (2, [.ref ta, .null, .null, .int 0]))] rfl rfl (by decide) rfl 19 rfl (fun u16_10 => ?_)
  refine g_t [0] rfl ?_
  refine g_w (ws' := [(h, .inr (2, [.ref ta, .null, .null, .int 0])), (a10_7, .inr (3, [.ref (u16_10 1), .int 0])), (u16_10 1, .inl (cI, 60, .inl (fun _ => 0)))]) rfl ?_
  refine g_putF F hin zc2 dX3_init_19 0 rfl 1 (by decide) m_244 rfl rfl (tyX3_ok 1 (by decide)) rfl rfl (Nat.le_of_ble_eq_true rfl) 22 rfl ?_
  refine g_w (ws' := [(h, .inr (2, [.ref ta, .ref a10_7, .null, .int 0])), (a10_7, .inr (3, [.ref (u16_10 1), .int 0])), (u16_10 1, .inl (cI, 60, .inl (fun _ => 0)))]) rfl ?_
  refine g_aload_n F dX3_init_22 0 rfl 23 rfl ?_
  refine g_ldcS rfl F dX3_init_23 25 rfl ?_
  refine g_put F zc2 dX3_init_25 0 rfl 2 (by decide) m_246 rfl (tyX3_ok 2 (by decide)) rfl rfl (Nat.le_of_ble_eq_true rfl) 28 rfl ?_
  refine g_w (ws' := [(h, .inr (2, [.ref ta, .ref a10_7, .ref sa, .int 0])), (a10_7, .inr (3, [.ref (u16_10 1), .int 0])), (u16_10 1, .inl (cI, 60, .inl (fun _ => 0)))]) rfl ?_
  refine g_aload_n F dX3_init_28 0 rfl 29 rfl ?_
  refine g_iconst F dX3_init_29 0 (by decide) 30 rfl ?_
  refine g_put F zc2 dX3_init_30 0 rfl 3 (by decide) m_247 rfl (tyX3_ok 3 (by decide)) rfl rfl (Nat.le_of_ble_eq_true rfl) 33 rfl ?_
  refine g_w (ws' := [(h, .inr (2, [.ref ta, .ref a10_7, .ref sa, .int 0])), (a10_7, .inr (3, [.ref (u16_10 1), .int 0])), (u16_10 1, .inl (cI, 60, .inl (fun _ => 0)))]) rfl ?_
  exact g_ret F hr dX3_init_33 (fun k => [h, a10_7, (u16_10 1)].getD k 0) [0, 1, 2] rfl rfl rfl [0] rfl
def gX8_W (cI : ClassId) (h : Nat) (v : g_S) : va_W := [(h, .inr (7, [.ref (v.1 1), .ref (v.1 7), .ref (v.1 9), .ref (v.1 10), .ref (v.1 11), .ref (v.1 20), .ref (v.1 22), .int 1])), (v.1 1, .inr (1, [.int 0, .ref (v.1 2), .ref (v.1 3), .ref (v.1 4), .ref (v.1 5), .ref (v.1 6)])), (v.1 2, .inl (cI, 8, .inl (fun _ => 0))), (v.1 3, .inl (cI, 8, .inl (fun _ => 0))), (v.1 4, .inl (cI, 8, .inl (fun _ => 0))), (v.1 5, .inl (cI, 8, .inl (fun _ => 0))), (v.1 6, .inl (cI, 64, .inl (fun _ => 0))), (v.1 7, .inr (0, [.int 0, .int 100, .int 5, .ref (v.1 8)])), (v.1 8, .inl (cI, 8, .inl (fun _ => 0))), (v.1 9, .inl (cI, 6, .inl (fun _ => 0))), (v.1 10, .inl (cI, 6, .inl (upd (upd (upd (upd (upd (upd (fun _ => 0) 0 1) 1 1) 2 1) 3 1) 4 1) 5 1))), (v.1 11, .inl (v.2, 2, .inr (.inr (.inr (.inr (va_up (va_up (fun _ => none) 0 (some (v.1 12))) 1 (some (v.1 16)))))))), (v.1 12, .inr (5, [.ref (v.1 13), .ref (v.1 15)])), (v.1 13, .inr (3, [.ref (v.1 14), .int 0])), (v.1 14, .inl (cI, 60, .inl (fun _ => 0))), (v.1 15, .inl (cI, 60, .inl (fun _ => 0))), (v.1 16, .inr (5, [.ref (v.1 17), .ref (v.1 19)])), (v.1 17, .inr (3, [.ref (v.1 18), .int 0])), (v.1 18, .inl (cI, 60, .inl (fun _ => 0))), (v.1 19, .inl (cI, 60, .inl (fun _ => 0))), (v.1 20, .inr (3, [.ref (v.1 21), .int 0])), (v.1 21, .inl (cI, 60, .inl (fun _ => 0))), (v.1 22, .inr (3, [.ref (v.1 23), .int 0])), (v.1 23, .inl (cI, 24, .inl (fun _ => 0)))]
set_option maxHeartbeats 4000000 in
set_option maxRecDepth 20000 in
theorem cX8_new {l : Launch} {D : va_G} {cI : ClassId} {sa h : Nat} : g_M (S := g_S) l D cI sa 3 yX8_init cX8_init 2 [.ref h] [(h, .inr (7, [.null, .null, .null, .null, .null, .null, .null, .int 0]))] 23 464 (fun v => gX8_W cI h v) (fun v => [(cI, .int), (v.2, .object RX6)]) := by
  refine g_intro (by decide) rfl (Nat.le_of_ble_eq_true rfl) (fun K A F hin hr => ?_)
  refine g_aload_n F dX8_init_0 0 rfl 1 rfl ?_
  refine g_objInit F dX8_init_1 m_102 (Nat.le_of_ble_eq_true rfl) (Nat.le_of_ble_eq_true rfl) 4 rfl ?_
  refine g_aload_n F dX8_init_4 0 rfl 5 rfl ?_
  refine g_new F zc1 dX8_init_5 m_103 m_104 m_72 tyX1 tyX1_ok [.int 0, .null, .null, .null, .null, .null] (fun j hj => by rcases (show j = 0 ∨ j = 1 ∨ j = 2 ∨ j = 3 ∨ j = 4 ∨ j = 5 by omega) with rfl | rfl | rfl | rfl | rfl | rfl <;> rfl) (Nat.le_of_ble_eq_true rfl) (Nat.le_of_ble_eq_true rfl) 8 rfl (fun a5_4 => ?_)
  refine g_w (ws' := [(h, .inr (7, [.null, .null, .null, .null, .null, .null, .null, .int 0])), (a5_4, .inr (1, [.int 0, .null, .null, .null, .null, .null]))]) rfl ?_
  refine g_dup F dX8_init_8 rfl 9 rfl ?_
  refine g_callI F dX8_init_9 m_105 iX1_init m_106 rfl rfl (cX1_new) rfl (Nat.le_of_ble_eq_true rfl) (Nat.le_of_ble_eq_true rfl) (Nat.le_of_ble_eq_true rfl) (Nat.le_of_ble_eq_true rfl) (Nat.le_of_ble_eq_true rfl) 1 rfl [0] [(h, .inr (7, [.null, .null, .null, .null, .null, .null, .null, .int 0]))] rfl rfl (by decide) rfl 12 rfl (fun u9_6 => ?_)
  refine g_t [0] rfl ?_
  refine g_w (ws' := [(h, .inr (7, [.null, .null, .null, .null, .null, .null, .null, .int 0])), (a5_4, .inr (1, [.int 0, .ref (u9_6 1), .ref (u9_6 2), .ref (u9_6 3), .ref (u9_6 4), .ref (u9_6 5)])), (u9_6 1, .inl (cI, 8, .inl (fun _ => 0))), (u9_6 2, .inl (cI, 8, .inl (fun _ => 0))), (u9_6 3, .inl (cI, 8, .inl (fun _ => 0))), (u9_6 4, .inl (cI, 8, .inl (fun _ => 0))), (u9_6 5, .inl (cI, 64, .inl (fun _ => 0)))]) rfl ?_
  refine g_putF F hin zc7 dX8_init_12 0 rfl 0 (by decide) m_199 rfl rfl (tyX8_ok 0 (by decide)) rfl rfl (Nat.le_of_ble_eq_true rfl) 15 rfl ?_
  refine g_w (ws' := [(h, .inr (7, [.ref a5_4, .null, .null, .null, .null, .null, .null, .int 0])), (a5_4, .inr (1, [.int 0, .ref (u9_6 1), .ref (u9_6 2), .ref (u9_6 3), .ref (u9_6 4), .ref (u9_6 5)])), (u9_6 1, .inl (cI, 8, .inl (fun _ => 0))), (u9_6 2, .inl (cI, 8, .inl (fun _ => 0))), (u9_6 3, .inl (cI, 8, .inl (fun _ => 0))), (u9_6 4, .inl (cI, 8, .inl (fun _ => 0))), (u9_6 5, .inl (cI, 64, .inl (fun _ => 0)))]) rfl ?_
  refine g_aload_n F dX8_init_15 0 rfl 16 rfl ?_
  refine g_new F zc0 dX8_init_16 m_138 m_139 m_73 tyX0 tyX0_ok [.int 0, .int 0, .int 0, .null] (fun j hj => by rcases (show j = 0 ∨ j = 1 ∨ j = 2 ∨ j = 3 by omega) with rfl | rfl | rfl | rfl <;> rfl) (Nat.le_of_ble_eq_true rfl) (Nat.le_of_ble_eq_true rfl) 19 rfl (fun a16_9 => ?_)
  refine g_w (ws' := [(h, .inr (7, [.ref a5_4, .null, .null, .null, .null, .null, .null, .int 0])), (a5_4, .inr (1, [.int 0, .ref (u9_6 1), .ref (u9_6 2), .ref (u9_6 3), .ref (u9_6 4), .ref (u9_6 5)])), (u9_6 1, .inl (cI, 8, .inl (fun _ => 0))), (u9_6 2, .inl (cI, 8, .inl (fun _ => 0))), (u9_6 3, .inl (cI, 8, .inl (fun _ => 0))), (u9_6 4, .inl (cI, 8, .inl (fun _ => 0))), (u9_6 5, .inl (cI, 64, .inl (fun _ => 0))), (a16_9, .inr (0, [.int 0, .int 0, .int 0, .null]))]) rfl ?_
  refine g_dup F dX8_init_19 rfl 20 rfl ?_
  refine g_callI F dX8_init_20 m_140 iX0_init m_141 rfl rfl (cX0_new) rfl (Nat.le_of_ble_eq_true rfl) (Nat.le_of_ble_eq_true rfl) (Nat.le_of_ble_eq_true rfl) (Nat.le_of_ble_eq_true rfl) (Nat.le_of_ble_eq_true rfl) 7 rfl [0, 1, 2, 3, 4, 5, 6] [(h, .inr (7, [.ref a5_4, .null, .null, .null, .null, .null, .null, .int 0])), (a5_4, .inr (1, [.int 0, .ref (u9_6 1), .ref (u9_6 2), .ref (u9_6 3), .ref (u9_6 4), .ref (u9_6 5)])), (u9_6 1, .inl (cI, 8, .inl (fun _ => 0))), (u9_6 2, .inl (cI, 8, .inl (fun _ => 0))), (u9_6 3, .inl (cI, 8, .inl (fun _ => 0))), (u9_6 4, .inl (cI, 8, .inl (fun _ => 0))), (u9_6 5, .inl (cI, 64, .inl (fun _ => 0)))] rfl rfl (by decide) rfl 23 rfl (fun u20_11 => ?_)
  refine g_t [0] rfl ?_
  refine g_w (ws' := [(h, .inr (7, [.ref a5_4, .null, .null, .null, .null, .null, .null, .int 0])), (a5_4, .inr (1, [.int 0, .ref (u9_6 1), .ref (u9_6 2), .ref (u9_6 3), .ref (u9_6 4), .ref (u9_6 5)])), (u9_6 1, .inl (cI, 8, .inl (fun _ => 0))), (u9_6 2, .inl (cI, 8, .inl (fun _ => 0))), (u9_6 3, .inl (cI, 8, .inl (fun _ => 0))), (u9_6 4, .inl (cI, 8, .inl (fun _ => 0))), (u9_6 5, .inl (cI, 64, .inl (fun _ => 0))), (a16_9, .inr (0, [.int 0, .int 100, .int 5, .ref (u20_11 1)])), (u20_11 1, .inl (cI, 8, .inl (fun _ => 0)))]) rfl ?_
  refine g_putF F hin zc7 dX8_init_23 0 rfl 1 (by decide) m_201 rfl rfl (tyX8_ok 1 (by decide)) rfl rfl (Nat.le_of_ble_eq_true rfl) 26 rfl ?_
  refine g_w (ws' := [(h, .inr (7, [.ref a5_4, .ref a16_9, .null, .null, .null, .null, .null, .int 0])), (a5_4, .inr (1, [.int 0, .ref (u9_6 1), .ref (u9_6 2), .ref (u9_6 3), .ref (u9_6 4), .ref (u9_6 5)])), (u9_6 1, .inl (cI, 8, .inl (fun _ => 0))), (u9_6 2, .inl (cI, 8, .inl (fun _ => 0))), (u9_6 3, .inl (cI, 8, .inl (fun _ => 0))), (u9_6 4, .inl (cI, 8, .inl (fun _ => 0))), (u9_6 5, .inl (cI, 64, .inl (fun _ => 0))), (a16_9, .inr (0, [.int 0, .int 100, .int 5, .ref (u20_11 1)])), (u20_11 1, .inl (cI, 8, .inl (fun _ => 0)))]) rfl ?_
  refine g_aload_n F dX8_init_26 0 rfl 27 rfl ?_
  refine g_bipush F dX8_init_27 6 (by decide) 29 rfl ?_
  refine g_newa F dX8_init_29 6 (by decide) (by decide) (Nat.le_of_ble_eq_true rfl) (Nat.le_of_ble_eq_true rfl) (Nat.le_of_ble_eq_true rfl) rfl 31 rfl (fun a29_15 => ?_)
  refine g_w (ws' := [(h, .inr (7, [.ref a5_4, .ref a16_9, .null, .null, .null, .null, .null, .int 0])), (a5_4, .inr (1, [.int 0, .ref (u9_6 1), .ref (u9_6 2), .ref (u9_6 3), .ref (u9_6 4), .ref (u9_6 5)])), (u9_6 1, .inl (cI, 8, .inl (fun _ => 0))), (u9_6 2, .inl (cI, 8, .inl (fun _ => 0))), (u9_6 3, .inl (cI, 8, .inl (fun _ => 0))), (u9_6 4, .inl (cI, 8, .inl (fun _ => 0))), (u9_6 5, .inl (cI, 64, .inl (fun _ => 0))), (a16_9, .inr (0, [.int 0, .int 100, .int 5, .ref (u20_11 1)])), (u20_11 1, .inl (cI, 8, .inl (fun _ => 0))), (a29_15, .inl (cI, 6, .inl (fun _ => 0)))]) rfl ?_
  refine g_putF F hin zc7 dX8_init_31 0 rfl 2 (by decide) m_203 rfl rfl (tyX8_ok 2 (by decide)) rfl rfl (Nat.le_of_ble_eq_true rfl) 34 rfl ?_
  refine g_w (ws' := [(h, .inr (7, [.ref a5_4, .ref a16_9, .ref a29_15, .null, .null, .null, .null, .int 0])), (a5_4, .inr (1, [.int 0, .ref (u9_6 1), .ref (u9_6 2), .ref (u9_6 3), .ref (u9_6 4), .ref (u9_6 5)])), (u9_6 1, .inl (cI, 8, .inl (fun _ => 0))), (u9_6 2, .inl (cI, 8, .inl (fun _ => 0))), (u9_6 3, .inl (cI, 8, .inl (fun _ => 0))), (u9_6 4, .inl (cI, 8, .inl (fun _ => 0))), (u9_6 5, .inl (cI, 64, .inl (fun _ => 0))), (a16_9, .inr (0, [.int 0, .int 100, .int 5, .ref (u20_11 1)])), (u20_11 1, .inl (cI, 8, .inl (fun _ => 0))), (a29_15, .inl (cI, 6, .inl (fun _ => 0)))]) rfl ?_
  refine g_aload_n F dX8_init_34 0 rfl 35 rfl ?_
  refine g_bipush F dX8_init_35 6 (by decide) 37 rfl ?_
  refine g_newa F dX8_init_37 6 (by decide) (by decide) (Nat.le_of_ble_eq_true rfl) (Nat.le_of_ble_eq_true rfl) (Nat.le_of_ble_eq_true rfl) rfl 39 rfl (fun a37_19 => ?_)
  refine g_w (ws' := [(h, .inr (7, [.ref a5_4, .ref a16_9, .ref a29_15, .null, .null, .null, .null, .int 0])), (a5_4, .inr (1, [.int 0, .ref (u9_6 1), .ref (u9_6 2), .ref (u9_6 3), .ref (u9_6 4), .ref (u9_6 5)])), (u9_6 1, .inl (cI, 8, .inl (fun _ => 0))), (u9_6 2, .inl (cI, 8, .inl (fun _ => 0))), (u9_6 3, .inl (cI, 8, .inl (fun _ => 0))), (u9_6 4, .inl (cI, 8, .inl (fun _ => 0))), (u9_6 5, .inl (cI, 64, .inl (fun _ => 0))), (a16_9, .inr (0, [.int 0, .int 100, .int 5, .ref (u20_11 1)])), (u20_11 1, .inl (cI, 8, .inl (fun _ => 0))), (a29_15, .inl (cI, 6, .inl (fun _ => 0))), (a37_19, .inl (cI, 6, .inl (fun _ => 0)))]) rfl ?_
  refine g_putF F hin zc7 dX8_init_39 0 rfl 3 (by decide) m_205 rfl rfl (tyX8_ok 3 (by decide)) rfl rfl (Nat.le_of_ble_eq_true rfl) 42 rfl ?_
  refine g_w (ws' := [(h, .inr (7, [.ref a5_4, .ref a16_9, .ref a29_15, .ref a37_19, .null, .null, .null, .int 0])), (a5_4, .inr (1, [.int 0, .ref (u9_6 1), .ref (u9_6 2), .ref (u9_6 3), .ref (u9_6 4), .ref (u9_6 5)])), (u9_6 1, .inl (cI, 8, .inl (fun _ => 0))), (u9_6 2, .inl (cI, 8, .inl (fun _ => 0))), (u9_6 3, .inl (cI, 8, .inl (fun _ => 0))), (u9_6 4, .inl (cI, 8, .inl (fun _ => 0))), (u9_6 5, .inl (cI, 64, .inl (fun _ => 0))), (a16_9, .inr (0, [.int 0, .int 100, .int 5, .ref (u20_11 1)])), (u20_11 1, .inl (cI, 8, .inl (fun _ => 0))), (a29_15, .inl (cI, 6, .inl (fun _ => 0))), (a37_19, .inl (cI, 6, .inl (fun _ => 0)))]) rfl ?_
  refine g_iconst F dX8_init_42 0 (by decide) 43 rfl ?_
  refine g_istore_n F dX8_init_43 [(0, _), (1, _)] rfl (by decide) 44 rfl ?_
  refine g_iload_n F dX8_init_44 1 rfl 45 rfl ?_
  refine g_bipush F dX8_init_45 6 (by decide) 47 rfl ?_
  refine g_icmp_ge F dX8_init_47 63 (by decide) 50 rfl (fun hc => absurd hc (by decide)) (fun hc => ?_)
  refine g_aload_n F dX8_init_50 0 rfl 51 rfl ?_
  refine g_get F zc7 dX8_init_51 0 rfl 3 (by decide) (.inl m_205) (.ref a37_19) rfl 54 rfl ?_
  refine g_iload_n F dX8_init_54 1 rfl 55 rfl ?_
  refine g_iconst F dX8_init_55 1 (by decide) 56 rfl ?_
  refine g_iast F dX8_init_56 10 rfl rfl (vp_in_nI (n := 0) (by decide) (by decide)) 57 rfl ?_
  refine g_w (ws' := [(h, .inr (7, [.ref a5_4, .ref a16_9, .ref a29_15, .ref a37_19, .null, .null, .null, .int 0])), (a5_4, .inr (1, [.int 0, .ref (u9_6 1), .ref (u9_6 2), .ref (u9_6 3), .ref (u9_6 4), .ref (u9_6 5)])), (u9_6 1, .inl (cI, 8, .inl (fun _ => 0))), (u9_6 2, .inl (cI, 8, .inl (fun _ => 0))), (u9_6 3, .inl (cI, 8, .inl (fun _ => 0))), (u9_6 4, .inl (cI, 8, .inl (fun _ => 0))), (u9_6 5, .inl (cI, 64, .inl (fun _ => 0))), (a16_9, .inr (0, [.int 0, .int 100, .int 5, .ref (u20_11 1)])), (u20_11 1, .inl (cI, 8, .inl (fun _ => 0))), (a29_15, .inl (cI, 6, .inl (fun _ => 0))), (a37_19, .inl (cI, 6, .inl (upd (fun _ => 0) 0 1)))]) rfl ?_
  refine g_iinc F dX8_init_57 1 rfl 1 (by decide) [(0, _), (1, .int 1)] rfl (by decide) 60 rfl ?_
  refine g_goto F dX8_init_60 44 (by decide) ?_
  refine g_iload_n F dX8_init_44 1 rfl 45 rfl ?_
  refine g_bipush F dX8_init_45 6 (by decide) 47 rfl ?_
  refine g_icmp_ge F dX8_init_47 63 (by decide) 50 rfl (fun hc => absurd hc (by decide)) (fun hc => ?_)
  refine g_aload_n F dX8_init_50 0 rfl 51 rfl ?_
  refine g_get F zc7 dX8_init_51 0 rfl 3 (by decide) (.inl m_205) (.ref a37_19) rfl 54 rfl ?_
  refine g_iload_n F dX8_init_54 1 rfl 55 rfl ?_
  refine g_iconst F dX8_init_55 1 (by decide) 56 rfl ?_
  refine g_iast F dX8_init_56 10 rfl rfl (vp_in_nI (n := 1) (by decide) (by decide)) 57 rfl ?_
  refine g_w (ws' := [(h, .inr (7, [.ref a5_4, .ref a16_9, .ref a29_15, .ref a37_19, .null, .null, .null, .int 0])), (a5_4, .inr (1, [.int 0, .ref (u9_6 1), .ref (u9_6 2), .ref (u9_6 3), .ref (u9_6 4), .ref (u9_6 5)])), (u9_6 1, .inl (cI, 8, .inl (fun _ => 0))), (u9_6 2, .inl (cI, 8, .inl (fun _ => 0))), (u9_6 3, .inl (cI, 8, .inl (fun _ => 0))), (u9_6 4, .inl (cI, 8, .inl (fun _ => 0))), (u9_6 5, .inl (cI, 64, .inl (fun _ => 0))), (a16_9, .inr (0, [.int 0, .int 100, .int 5, .ref (u20_11 1)])), (u20_11 1, .inl (cI, 8, .inl (fun _ => 0))), (a29_15, .inl (cI, 6, .inl (fun _ => 0))), (a37_19, .inl (cI, 6, .inl (upd (upd (fun _ => 0) 0 1) 1 1)))]) rfl ?_
  refine g_iinc F dX8_init_57 1 rfl 1 (by decide) [(0, _), (1, .int 2)] rfl (by decide) 60 rfl ?_
  refine g_goto F dX8_init_60 44 (by decide) ?_
  refine g_iload_n F dX8_init_44 1 rfl 45 rfl ?_
  refine g_bipush F dX8_init_45 6 (by decide) 47 rfl ?_
  refine g_icmp_ge F dX8_init_47 63 (by decide) 50 rfl (fun hc => absurd hc (by decide)) (fun hc => ?_)
  refine g_aload_n F dX8_init_50 0 rfl 51 rfl ?_
  refine g_get F zc7 dX8_init_51 0 rfl 3 (by decide) (.inl m_205) (.ref a37_19) rfl 54 rfl ?_
  refine g_iload_n F dX8_init_54 1 rfl 55 rfl ?_
  refine g_iconst F dX8_init_55 1 (by decide) 56 rfl ?_
  refine g_iast F dX8_init_56 10 rfl rfl (vp_in_nI (n := 2) (by decide) (by decide)) 57 rfl ?_
  refine g_w (ws' := [(h, .inr (7, [.ref a5_4, .ref a16_9, .ref a29_15, .ref a37_19, .null, .null, .null, .int 0])), (a5_4, .inr (1, [.int 0, .ref (u9_6 1), .ref (u9_6 2), .ref (u9_6 3), .ref (u9_6 4), .ref (u9_6 5)])), (u9_6 1, .inl (cI, 8, .inl (fun _ => 0))), (u9_6 2, .inl (cI, 8, .inl (fun _ => 0))), (u9_6 3, .inl (cI, 8, .inl (fun _ => 0))), (u9_6 4, .inl (cI, 8, .inl (fun _ => 0))), (u9_6 5, .inl (cI, 64, .inl (fun _ => 0))), (a16_9, .inr (0, [.int 0, .int 100, .int 5, .ref (u20_11 1)])), (u20_11 1, .inl (cI, 8, .inl (fun _ => 0))), (a29_15, .inl (cI, 6, .inl (fun _ => 0))), (a37_19, .inl (cI, 6, .inl (upd (upd (upd (fun _ => 0) 0 1) 1 1) 2 1)))]) rfl ?_
  refine g_iinc F dX8_init_57 1 rfl 1 (by decide) [(0, _), (1, .int 3)] rfl (by decide) 60 rfl ?_
  refine g_goto F dX8_init_60 44 (by decide) ?_
  refine g_iload_n F dX8_init_44 1 rfl 45 rfl ?_
  refine g_bipush F dX8_init_45 6 (by decide) 47 rfl ?_
  refine g_icmp_ge F dX8_init_47 63 (by decide) 50 rfl (fun hc => absurd hc (by decide)) (fun hc => ?_)
  refine g_aload_n F dX8_init_50 0 rfl 51 rfl ?_
  refine g_get F zc7 dX8_init_51 0 rfl 3 (by decide) (.inl m_205) (.ref a37_19) rfl 54 rfl ?_
  refine g_iload_n F dX8_init_54 1 rfl 55 rfl ?_
  refine g_iconst F dX8_init_55 1 (by decide) 56 rfl ?_
  refine g_iast F dX8_init_56 10 rfl rfl (vp_in_nI (n := 3) (by decide) (by decide)) 57 rfl ?_
  refine g_w (ws' := [(h, .inr (7, [.ref a5_4, .ref a16_9, .ref a29_15, .ref a37_19, .null, .null, .null, .int 0])), (a5_4, .inr (1, [.int 0, .ref (u9_6 1), .ref (u9_6 2), .ref (u9_6 3), .ref (u9_6 4), .ref (u9_6 5)])), (u9_6 1, .inl (cI, 8, .inl (fun _ => 0))), (u9_6 2, .inl (cI, 8, .inl (fun _ => 0))), (u9_6 3, .inl (cI, 8, .inl (fun _ => 0))), (u9_6 4, .inl (cI, 8, .inl (fun _ => 0))), (u9_6 5, .inl (cI, 64, .inl (fun _ => 0))), (a16_9, .inr (0, [.int 0, .int 100, .int 5, .ref (u20_11 1)])), (u20_11 1, .inl (cI, 8, .inl (fun _ => 0))), (a29_15, .inl (cI, 6, .inl (fun _ => 0))), (a37_19, .inl (cI, 6, .inl (upd (upd (upd (upd (fun _ => 0) 0 1) 1 1) 2 1) 3 1)))]) rfl ?_
  refine g_iinc F dX8_init_57 1 rfl 1 (by decide) [(0, _), (1, .int 4)] rfl (by decide) 60 rfl ?_
  refine g_goto F dX8_init_60 44 (by decide) ?_
  refine g_iload_n F dX8_init_44 1 rfl 45 rfl ?_
  refine g_bipush F dX8_init_45 6 (by decide) 47 rfl ?_
  refine g_icmp_ge F dX8_init_47 63 (by decide) 50 rfl (fun hc => absurd hc (by decide)) (fun hc => ?_)
  refine g_aload_n F dX8_init_50 0 rfl 51 rfl ?_
  refine g_get F zc7 dX8_init_51 0 rfl 3 (by decide) (.inl m_205) (.ref a37_19) rfl 54 rfl ?_
  refine g_iload_n F dX8_init_54 1 rfl 55 rfl ?_
  refine g_iconst F dX8_init_55 1 (by decide) 56 rfl ?_
  refine g_iast F dX8_init_56 10 rfl rfl (vp_in_nI (n := 4) (by decide) (by decide)) 57 rfl ?_
  refine g_w (ws' := [(h, .inr (7, [.ref a5_4, .ref a16_9, .ref a29_15, .ref a37_19, .null, .null, .null, .int 0])), (a5_4, .inr (1, [.int 0, .ref (u9_6 1), .ref (u9_6 2), .ref (u9_6 3), .ref (u9_6 4), .ref (u9_6 5)])), (u9_6 1, .inl (cI, 8, .inl (fun _ => 0))), (u9_6 2, .inl (cI, 8, .inl (fun _ => 0))), (u9_6 3, .inl (cI, 8, .inl (fun _ => 0))), (u9_6 4, .inl (cI, 8, .inl (fun _ => 0))), (u9_6 5, .inl (cI, 64, .inl (fun _ => 0))), (a16_9, .inr (0, [.int 0, .int 100, .int 5, .ref (u20_11 1)])), (u20_11 1, .inl (cI, 8, .inl (fun _ => 0))), (a29_15, .inl (cI, 6, .inl (fun _ => 0))), (a37_19, .inl (cI, 6, .inl (upd (upd (upd (upd (upd (fun _ => 0) 0 1) 1 1) 2 1) 3 1) 4 1)))]) rfl ?_
  refine g_iinc F dX8_init_57 1 rfl 1 (by decide) [(0, _), (1, .int 5)] rfl (by decide) 60 rfl ?_
  refine g_goto F dX8_init_60 44 (by decide) ?_
  refine g_iload_n F dX8_init_44 1 rfl 45 rfl ?_
  refine g_bipush F dX8_init_45 6 (by decide) 47 rfl ?_
  refine g_icmp_ge F dX8_init_47 63 (by decide) 50 rfl (fun hc => absurd hc (by decide)) (fun hc => ?_)
  refine g_aload_n F dX8_init_50 0 rfl 51 rfl ?_
  refine g_get F zc7 dX8_init_51 0 rfl 3 (by decide) (.inl m_205) (.ref a37_19) rfl 54 rfl ?_
  refine g_iload_n F dX8_init_54 1 rfl 55 rfl ?_
  refine g_iconst F dX8_init_55 1 (by decide) 56 rfl ?_
  refine g_iast F dX8_init_56 10 rfl rfl (vp_in_nI (n := 5) (by decide) (by decide)) 57 rfl ?_
  refine g_w (ws' := [(h, .inr (7, [.ref a5_4, .ref a16_9, .ref a29_15, .ref a37_19, .null, .null, .null, .int 0])), (a5_4, .inr (1, [.int 0, .ref (u9_6 1), .ref (u9_6 2), .ref (u9_6 3), .ref (u9_6 4), .ref (u9_6 5)])), (u9_6 1, .inl (cI, 8, .inl (fun _ => 0))), (u9_6 2, .inl (cI, 8, .inl (fun _ => 0))), (u9_6 3, .inl (cI, 8, .inl (fun _ => 0))), (u9_6 4, .inl (cI, 8, .inl (fun _ => 0))), (u9_6 5, .inl (cI, 64, .inl (fun _ => 0))), (a16_9, .inr (0, [.int 0, .int 100, .int 5, .ref (u20_11 1)])), (u20_11 1, .inl (cI, 8, .inl (fun _ => 0))), (a29_15, .inl (cI, 6, .inl (fun _ => 0))), (a37_19, .inl (cI, 6, .inl (upd (upd (upd (upd (upd (upd (fun _ => 0) 0 1) 1 1) 2 1) 3 1) 4 1) 5 1)))]) rfl ?_
  refine g_iinc F dX8_init_57 1 rfl 1 (by decide) [(0, _), (1, .int 6)] rfl (by decide) 60 rfl ?_
  refine g_goto F dX8_init_60 44 (by decide) ?_
  refine g_iload_n F dX8_init_44 1 rfl 45 rfl ?_
  refine g_bipush F dX8_init_45 6 (by decide) 47 rfl ?_
  refine g_icmp_ge F dX8_init_47 63 (by decide) 50 rfl (fun hc => ?_) (fun hc => absurd (by decide) hc)
  refine g_aload_n F dX8_init_63 0 rfl 64 rfl ?_
  refine g_iconst F dX8_init_64 2 (by decide) 65 rfl ?_
  refine g_newq F dX8_init_65 m_165 F.2.2.2.2.2.2.1.2.1 2 (by decide) (by decide) (Nat.le_of_ble_eq_true rfl) (Nat.le_of_ble_eq_true rfl) (Nat.le_of_ble_eq_true rfl) 68 rfl (fun a65_88 k0 => ?_)
  refine g_w (ws' := [(h, .inr (7, [.ref a5_4, .ref a16_9, .ref a29_15, .ref a37_19, .null, .null, .null, .int 0])), (a5_4, .inr (1, [.int 0, .ref (u9_6 1), .ref (u9_6 2), .ref (u9_6 3), .ref (u9_6 4), .ref (u9_6 5)])), (u9_6 1, .inl (cI, 8, .inl (fun _ => 0))), (u9_6 2, .inl (cI, 8, .inl (fun _ => 0))), (u9_6 3, .inl (cI, 8, .inl (fun _ => 0))), (u9_6 4, .inl (cI, 8, .inl (fun _ => 0))), (u9_6 5, .inl (cI, 64, .inl (fun _ => 0))), (a16_9, .inr (0, [.int 0, .int 100, .int 5, .ref (u20_11 1)])), (u20_11 1, .inl (cI, 8, .inl (fun _ => 0))), (a29_15, .inl (cI, 6, .inl (fun _ => 0))), (a37_19, .inl (cI, 6, .inl (upd (upd (upd (upd (upd (upd (fun _ => 0) 0 1) 1 1) 2 1) 3 1) 4 1) 5 1))), (a65_88, .inl (k0, 2, .inr (.inr (.inr (.inr (fun _ => none))))))]) rfl ?_
  refine g_t [0, 1] rfl ?_
  refine g_putF F hin zc7 dX8_init_68 0 rfl 4 (by decide) m_207 rfl rfl (tyX8_ok 4 (by decide)) rfl rfl (Nat.le_of_ble_eq_true rfl) 71 rfl ?_
  refine g_w (ws' := [(h, .inr (7, [.ref a5_4, .ref a16_9, .ref a29_15, .ref a37_19, .ref a65_88, .null, .null, .int 0])), (a5_4, .inr (1, [.int 0, .ref (u9_6 1), .ref (u9_6 2), .ref (u9_6 3), .ref (u9_6 4), .ref (u9_6 5)])), (u9_6 1, .inl (cI, 8, .inl (fun _ => 0))), (u9_6 2, .inl (cI, 8, .inl (fun _ => 0))), (u9_6 3, .inl (cI, 8, .inl (fun _ => 0))), (u9_6 4, .inl (cI, 8, .inl (fun _ => 0))), (u9_6 5, .inl (cI, 64, .inl (fun _ => 0))), (a16_9, .inr (0, [.int 0, .int 100, .int 5, .ref (u20_11 1)])), (u20_11 1, .inl (cI, 8, .inl (fun _ => 0))), (a29_15, .inl (cI, 6, .inl (fun _ => 0))), (a37_19, .inl (cI, 6, .inl (upd (upd (upd (upd (upd (upd (fun _ => 0) 0 1) 1 1) 2 1) 3 1) 4 1) 5 1))), (a65_88, .inl (k0, 2, .inr (.inr (.inr (.inr (fun _ => none))))))]) rfl ?_
  refine g_iconst F dX8_init_71 0 (by decide) 72 rfl ?_
  refine g_istore_n F dX8_init_72 [(0, _), (1, _)] rfl (by decide) 73 rfl ?_
  refine g_iload_n F dX8_init_73 1 rfl 74 rfl ?_
  refine g_iconst F dX8_init_74 2 (by decide) 75 rfl ?_
  refine g_icmp_ge F dX8_init_75 97 (by decide) 78 rfl (fun hc => absurd hc (by decide)) (fun hc => ?_)
  refine g_aload_n F dX8_init_78 0 rfl 79 rfl ?_
  refine g_get F zc7 dX8_init_79 0 rfl 4 (by decide) (.inl m_207) (.ref a65_88) rfl 82 rfl ?_
  refine g_iload_n F dX8_init_82 1 rfl 83 rfl ?_
  refine g_new F zc5 dX8_init_83 m_165 m_167 m_74 tyX6 tyX6_ok [.null, .null] (fun j hj => by rcases (show j = 0 ∨ j = 1 by omega) with rfl | rfl <;> rfl) (Nat.le_of_ble_eq_true rfl) (Nat.le_of_ble_eq_true rfl) 86 rfl (fun a83_98 => ?_)
  refine g_w (ws' := [(h, .inr (7, [.ref a5_4, .ref a16_9, .ref a29_15, .ref a37_19, .ref a65_88, .null, .null, .int 0])), (a5_4, .inr (1, [.int 0, .ref (u9_6 1), .ref (u9_6 2), .ref (u9_6 3), .ref (u9_6 4), .ref (u9_6 5)])), (u9_6 1, .inl (cI, 8, .inl (fun _ => 0))), (u9_6 2, .inl (cI, 8, .inl (fun _ => 0))), (u9_6 3, .inl (cI, 8, .inl (fun _ => 0))), (u9_6 4, .inl (cI, 8, .inl (fun _ => 0))), (u9_6 5, .inl (cI, 64, .inl (fun _ => 0))), (a16_9, .inr (0, [.int 0, .int 100, .int 5, .ref (u20_11 1)])), (u20_11 1, .inl (cI, 8, .inl (fun _ => 0))), (a29_15, .inl (cI, 6, .inl (fun _ => 0))), (a37_19, .inl (cI, 6, .inl (upd (upd (upd (upd (upd (upd (fun _ => 0) 0 1) 1 1) 2 1) 3 1) 4 1) 5 1))), (a65_88, .inl (k0, 2, .inr (.inr (.inr (.inr (fun _ => none)))))), (a83_98, .inr (5, [.null, .null]))]) rfl ?_
  refine g_dup F dX8_init_86 rfl 87 rfl ?_
  refine g_callI F dX8_init_87 m_168 iX6_init m_169 rfl rfl (cX6_new) rfl (Nat.le_of_ble_eq_true rfl) (Nat.le_of_ble_eq_true rfl) (Nat.le_of_ble_eq_true rfl) (Nat.le_of_ble_eq_true rfl) (Nat.le_of_ble_eq_true rfl) 12 rfl [0, 1, 2, 3, 4, 5, 6, 7, 8, 9, 10, 11] [(h, .inr (7, [.ref a5_4, .ref a16_9, .ref a29_15, .ref a37_19, .ref a65_88, .null, .null, .int 0])), (a5_4, .inr (1, [.int 0, .ref (u9_6 1), .ref (u9_6 2), .ref (u9_6 3), .ref (u9_6 4), .ref (u9_6 5)])), (u9_6 1, .inl (cI, 8, .inl (fun _ => 0))), (u9_6 2, .inl (cI, 8, .inl (fun _ => 0))), (u9_6 3, .inl (cI, 8, .inl (fun _ => 0))), (u9_6 4, .inl (cI, 8, .inl (fun _ => 0))), (u9_6 5, .inl (cI, 64, .inl (fun _ => 0))), (a16_9, .inr (0, [.int 0, .int 100, .int 5, .ref (u20_11 1)])), (u20_11 1, .inl (cI, 8, .inl (fun _ => 0))), (a29_15, .inl (cI, 6, .inl (fun _ => 0))), (a37_19, .inl (cI, 6, .inl (upd (upd (upd (upd (upd (upd (fun _ => 0) 0 1) 1 1) 2 1) 3 1) 4 1) 5 1))), (a65_88, .inl (k0, 2, .inr (.inr (.inr (.inr (fun _ => none))))))] rfl rfl (by decide) rfl 90 rfl (fun u87_100 => ?_)
  refine g_t [0, 1] rfl ?_
  refine g_w (ws' := [(h, .inr (7, [.ref a5_4, .ref a16_9, .ref a29_15, .ref a37_19, .ref a65_88, .null, .null, .int 0])), (a5_4, .inr (1, [.int 0, .ref (u9_6 1), .ref (u9_6 2), .ref (u9_6 3), .ref (u9_6 4), .ref (u9_6 5)])), (u9_6 1, .inl (cI, 8, .inl (fun _ => 0))), (u9_6 2, .inl (cI, 8, .inl (fun _ => 0))), (u9_6 3, .inl (cI, 8, .inl (fun _ => 0))), (u9_6 4, .inl (cI, 8, .inl (fun _ => 0))), (u9_6 5, .inl (cI, 64, .inl (fun _ => 0))), (a16_9, .inr (0, [.int 0, .int 100, .int 5, .ref (u20_11 1)])), (u20_11 1, .inl (cI, 8, .inl (fun _ => 0))), (a29_15, .inl (cI, 6, .inl (fun _ => 0))), (a37_19, .inl (cI, 6, .inl (upd (upd (upd (upd (upd (upd (fun _ => 0) 0 1) 1 1) 2 1) 3 1) 4 1) 5 1))), (a65_88, .inl (k0, 2, .inr (.inr (.inr (.inr (fun _ => none)))))), (a83_98, .inr (5, [.ref (u87_100 1), .ref (u87_100 3)])), (u87_100 1, .inr (3, [.ref (u87_100 2), .int 0])), (u87_100 2, .inl (cI, 60, .inl (fun _ => 0))), (u87_100 3, .inl (cI, 60, .inl (fun _ => 0)))]) rfl ?_
  refine g_aast F zc5 dX8_init_90 11 1 12 rfl rfl rfl (vp_in_nI (n := 0) (by decide) (by decide)) 91 rfl ?_
  refine g_w (ws' := [(h, .inr (7, [.ref a5_4, .ref a16_9, .ref a29_15, .ref a37_19, .ref a65_88, .null, .null, .int 0])), (a5_4, .inr (1, [.int 0, .ref (u9_6 1), .ref (u9_6 2), .ref (u9_6 3), .ref (u9_6 4), .ref (u9_6 5)])), (u9_6 1, .inl (cI, 8, .inl (fun _ => 0))), (u9_6 2, .inl (cI, 8, .inl (fun _ => 0))), (u9_6 3, .inl (cI, 8, .inl (fun _ => 0))), (u9_6 4, .inl (cI, 8, .inl (fun _ => 0))), (u9_6 5, .inl (cI, 64, .inl (fun _ => 0))), (a16_9, .inr (0, [.int 0, .int 100, .int 5, .ref (u20_11 1)])), (u20_11 1, .inl (cI, 8, .inl (fun _ => 0))), (a29_15, .inl (cI, 6, .inl (fun _ => 0))), (a37_19, .inl (cI, 6, .inl (upd (upd (upd (upd (upd (upd (fun _ => 0) 0 1) 1 1) 2 1) 3 1) 4 1) 5 1))), (a65_88, .inl (k0, 2, .inr (.inr (.inr (.inr (va_up (fun _ => none) 0 (some a83_98))))))), (a83_98, .inr (5, [.ref (u87_100 1), .ref (u87_100 3)])), (u87_100 1, .inr (3, [.ref (u87_100 2), .int 0])), (u87_100 2, .inl (cI, 60, .inl (fun _ => 0))), (u87_100 3, .inl (cI, 60, .inl (fun _ => 0)))]) rfl ?_
  refine g_iinc F dX8_init_91 1 rfl 1 (by decide) [(0, _), (1, .int 1)] rfl (by decide) 94 rfl ?_
  refine g_goto F dX8_init_94 73 (by decide) ?_
  refine g_iload_n F dX8_init_73 1 rfl 74 rfl ?_
  refine g_iconst F dX8_init_74 2 (by decide) 75 rfl ?_
  refine g_icmp_ge F dX8_init_75 97 (by decide) 78 rfl (fun hc => absurd hc (by decide)) (fun hc => ?_)
  refine g_aload_n F dX8_init_78 0 rfl 79 rfl ?_
  refine g_get F zc7 dX8_init_79 0 rfl 4 (by decide) (.inl m_207) (.ref a65_88) rfl 82 rfl ?_
  refine g_iload_n F dX8_init_82 1 rfl 83 rfl ?_
  refine g_new F zc5 dX8_init_83 m_165 m_167 m_74 tyX6 tyX6_ok [.null, .null] (fun j hj => by rcases (show j = 0 ∨ j = 1 by omega) with rfl | rfl <;> rfl) (Nat.le_of_ble_eq_true rfl) (Nat.le_of_ble_eq_true rfl) 86 rfl (fun a83_110 => ?_)
  refine g_w (ws' := [(h, .inr (7, [.ref a5_4, .ref a16_9, .ref a29_15, .ref a37_19, .ref a65_88, .null, .null, .int 0])), (a5_4, .inr (1, [.int 0, .ref (u9_6 1), .ref (u9_6 2), .ref (u9_6 3), .ref (u9_6 4), .ref (u9_6 5)])), (u9_6 1, .inl (cI, 8, .inl (fun _ => 0))), (u9_6 2, .inl (cI, 8, .inl (fun _ => 0))), (u9_6 3, .inl (cI, 8, .inl (fun _ => 0))), (u9_6 4, .inl (cI, 8, .inl (fun _ => 0))), (u9_6 5, .inl (cI, 64, .inl (fun _ => 0))), (a16_9, .inr (0, [.int 0, .int 100, .int 5, .ref (u20_11 1)])), (u20_11 1, .inl (cI, 8, .inl (fun _ => 0))), (a29_15, .inl (cI, 6, .inl (fun _ => 0))), (a37_19, .inl (cI, 6, .inl (upd (upd (upd (upd (upd (upd (fun _ => 0) 0 1) 1 1) 2 1) 3 1) 4 1) 5 1))), (a65_88, .inl (k0, 2, .inr (.inr (.inr (.inr (va_up (fun _ => none) 0 (some a83_98))))))), (a83_98, .inr (5, [.ref (u87_100 1), .ref (u87_100 3)])), (u87_100 1, .inr (3, [.ref (u87_100 2), .int 0])), (u87_100 2, .inl (cI, 60, .inl (fun _ => 0))), (u87_100 3, .inl (cI, 60, .inl (fun _ => 0))), (a83_110, .inr (5, [.null, .null]))]) rfl ?_
  refine g_dup F dX8_init_86 rfl 87 rfl ?_
  refine g_callI F dX8_init_87 m_168 iX6_init m_169 rfl rfl (cX6_new) rfl (Nat.le_of_ble_eq_true rfl) (Nat.le_of_ble_eq_true rfl) (Nat.le_of_ble_eq_true rfl) (Nat.le_of_ble_eq_true rfl) (Nat.le_of_ble_eq_true rfl) 16 rfl [0, 1, 2, 3, 4, 5, 6, 7, 8, 9, 10, 11, 12, 13, 14, 15] [(h, .inr (7, [.ref a5_4, .ref a16_9, .ref a29_15, .ref a37_19, .ref a65_88, .null, .null, .int 0])), (a5_4, .inr (1, [.int 0, .ref (u9_6 1), .ref (u9_6 2), .ref (u9_6 3), .ref (u9_6 4), .ref (u9_6 5)])), (u9_6 1, .inl (cI, 8, .inl (fun _ => 0))), (u9_6 2, .inl (cI, 8, .inl (fun _ => 0))), (u9_6 3, .inl (cI, 8, .inl (fun _ => 0))), (u9_6 4, .inl (cI, 8, .inl (fun _ => 0))), (u9_6 5, .inl (cI, 64, .inl (fun _ => 0))), (a16_9, .inr (0, [.int 0, .int 100, .int 5, .ref (u20_11 1)])), (u20_11 1, .inl (cI, 8, .inl (fun _ => 0))), (a29_15, .inl (cI, 6, .inl (fun _ => 0))), (a37_19, .inl (cI, 6, .inl (upd (upd (upd (upd (upd (upd (fun _ => 0) 0 1) 1 1) 2 1) 3 1) 4 1) 5 1))), (a65_88, .inl (k0, 2, .inr (.inr (.inr (.inr (va_up (fun _ => none) 0 (some a83_98))))))), (a83_98, .inr (5, [.ref (u87_100 1), .ref (u87_100 3)])), (u87_100 1, .inr (3, [.ref (u87_100 2), .int 0])), (u87_100 2, .inl (cI, 60, .inl (fun _ => 0))), (u87_100 3, .inl (cI, 60, .inl (fun _ => 0)))] rfl rfl (by decide) rfl 90 rfl (fun u87_112 => ?_)
  refine g_t [0, 1] rfl ?_
  refine g_w (ws' := [(h, .inr (7, [.ref a5_4, .ref a16_9, .ref a29_15, .ref a37_19, .ref a65_88, .null, .null, .int 0])), (a5_4, .inr (1, [.int 0, .ref (u9_6 1), .ref (u9_6 2), .ref (u9_6 3), .ref (u9_6 4), .ref (u9_6 5)])), (u9_6 1, .inl (cI, 8, .inl (fun _ => 0))), (u9_6 2, .inl (cI, 8, .inl (fun _ => 0))), (u9_6 3, .inl (cI, 8, .inl (fun _ => 0))), (u9_6 4, .inl (cI, 8, .inl (fun _ => 0))), (u9_6 5, .inl (cI, 64, .inl (fun _ => 0))), (a16_9, .inr (0, [.int 0, .int 100, .int 5, .ref (u20_11 1)])), (u20_11 1, .inl (cI, 8, .inl (fun _ => 0))), (a29_15, .inl (cI, 6, .inl (fun _ => 0))), (a37_19, .inl (cI, 6, .inl (upd (upd (upd (upd (upd (upd (fun _ => 0) 0 1) 1 1) 2 1) 3 1) 4 1) 5 1))), (a65_88, .inl (k0, 2, .inr (.inr (.inr (.inr (va_up (fun _ => none) 0 (some a83_98))))))), (a83_98, .inr (5, [.ref (u87_100 1), .ref (u87_100 3)])), (u87_100 1, .inr (3, [.ref (u87_100 2), .int 0])), (u87_100 2, .inl (cI, 60, .inl (fun _ => 0))), (u87_100 3, .inl (cI, 60, .inl (fun _ => 0))), (a83_110, .inr (5, [.ref (u87_112 1), .ref (u87_112 3)])), (u87_112 1, .inr (3, [.ref (u87_112 2), .int 0])), (u87_112 2, .inl (cI, 60, .inl (fun _ => 0))), (u87_112 3, .inl (cI, 60, .inl (fun _ => 0)))]) rfl ?_
  refine g_aast F zc5 dX8_init_90 11 1 16 rfl rfl rfl (vp_in_nI (n := 1) (by decide) (by decide)) 91 rfl ?_
  refine g_w (ws' := [(h, .inr (7, [.ref a5_4, .ref a16_9, .ref a29_15, .ref a37_19, .ref a65_88, .null, .null, .int 0])), (a5_4, .inr (1, [.int 0, .ref (u9_6 1), .ref (u9_6 2), .ref (u9_6 3), .ref (u9_6 4), .ref (u9_6 5)])), (u9_6 1, .inl (cI, 8, .inl (fun _ => 0))), (u9_6 2, .inl (cI, 8, .inl (fun _ => 0))), (u9_6 3, .inl (cI, 8, .inl (fun _ => 0))), (u9_6 4, .inl (cI, 8, .inl (fun _ => 0))), (u9_6 5, .inl (cI, 64, .inl (fun _ => 0))), (a16_9, .inr (0, [.int 0, .int 100, .int 5, .ref (u20_11 1)])), (u20_11 1, .inl (cI, 8, .inl (fun _ => 0))), (a29_15, .inl (cI, 6, .inl (fun _ => 0))), (a37_19, .inl (cI, 6, .inl (upd (upd (upd (upd (upd (upd (fun _ => 0) 0 1) 1 1) 2 1) 3 1) 4 1) 5 1))), (a65_88, .inl (k0, 2, .inr (.inr (.inr (.inr (va_up (va_up (fun _ => none) 0 (some a83_98)) 1 (some a83_110))))))), (a83_98, .inr (5, [.ref (u87_100 1), .ref (u87_100 3)])), (u87_100 1, .inr (3, [.ref (u87_100 2), .int 0])), (u87_100 2, .inl (cI, 60, .inl (fun _ => 0))), (u87_100 3, .inl (cI, 60, .inl (fun _ => 0))), (a83_110, .inr (5, [.ref (u87_112 1), .ref (u87_112 3)])), (u87_112 1, .inr (3, [.ref (u87_112 2), .int 0])), (u87_112 2, .inl (cI, 60, .inl (fun _ => 0))), (u87_112 3, .inl (cI, 60, .inl (fun _ => 0)))]) rfl ?_
  refine g_iinc F dX8_init_91 1 rfl 1 (by decide) [(0, _), (1, .int 2)] rfl (by decide) 94 rfl ?_
  refine g_goto F dX8_init_94 73 (by decide) ?_
  refine g_iload_n F dX8_init_73 1 rfl 74 rfl ?_
  refine g_iconst F dX8_init_74 2 (by decide) 75 rfl ?_
  refine g_icmp_ge F dX8_init_75 97 (by decide) 78 rfl (fun hc => ?_) (fun hc => absurd (by decide) hc)
  refine g_aload_n F dX8_init_97 0 rfl 98 rfl ?_
  refine g_new F zc3 dX8_init_98 m_197 m_173 m_75 tyX4 tyX4_ok [.null, .int 0] (fun j hj => by rcases (show j = 0 ∨ j = 1 by omega) with rfl | rfl <;> rfl) (Nat.le_of_ble_eq_true rfl) (Nat.le_of_ble_eq_true rfl) 101 rfl (fun a98_120 => ?_)
  refine g_w (ws' := [(h, .inr (7, [.ref a5_4, .ref a16_9, .ref a29_15, .ref a37_19, .ref a65_88, .null, .null, .int 0])), (a5_4, .inr (1, [.int 0, .ref (u9_6 1), .ref (u9_6 2), .ref (u9_6 3), .ref (u9_6 4), .ref (u9_6 5)])), (u9_6 1, .inl (cI, 8, .inl (fun _ => 0))), (u9_6 2, .inl (cI, 8, .inl (fun _ => 0))), (u9_6 3, .inl (cI, 8, .inl (fun _ => 0))), (u9_6 4, .inl (cI, 8, .inl (fun _ => 0))), (u9_6 5, .inl (cI, 64, .inl (fun _ => 0))), (a16_9, .inr (0, [.int 0, .int 100, .int 5, .ref (u20_11 1)])), (u20_11 1, .inl (cI, 8, .inl (fun _ => 0))), (a29_15, .inl (cI, 6, .inl (fun _ => 0))), (a37_19, .inl (cI, 6, .inl (upd (upd (upd (upd (upd (upd (fun _ => 0) 0 1) 1 1) 2 1) 3 1) 4 1) 5 1))), (a65_88, .inl (k0, 2, .inr (.inr (.inr (.inr (va_up (va_up (fun _ => none) 0 (some a83_98)) 1 (some a83_110))))))), (a83_98, .inr (5, [.ref (u87_100 1), .ref (u87_100 3)])), (u87_100 1, .inr (3, [.ref (u87_100 2), .int 0])), (u87_100 2, .inl (cI, 60, .inl (fun _ => 0))), (u87_100 3, .inl (cI, 60, .inl (fun _ => 0))), (a83_110, .inr (5, [.ref (u87_112 1), .ref (u87_112 3)])), (u87_112 1, .inr (3, [.ref (u87_112 2), .int 0])), (u87_112 2, .inl (cI, 60, .inl (fun _ => 0))), (u87_112 3, .inl (cI, 60, .inl (fun _ => 0))), (a98_120, .inr (3, [.null, .int 0]))]) rfl ?_
  refine g_dup F dX8_init_101 rfl 102 rfl ?_
  refine g_bipush F dX8_init_102 60 (by decide) 104 rfl ?_
  refine g_callI F dX8_init_104 m_198 iX4_init m_175 rfl rfl (cX4_new 60 60 (by decide) (by decide) (Nat.le_of_ble_eq_true rfl)) rfl (Nat.le_of_ble_eq_true rfl) (Nat.le_of_ble_eq_true rfl) (Nat.le_of_ble_eq_true rfl) (Nat.le_of_ble_eq_true rfl) (Nat.le_of_ble_eq_true rfl) 20 rfl [0, 1, 2, 3, 4, 5, 6, 7, 8, 9, 10, 11, 12, 13, 14, 15, 16, 17, 18, 19] [(h, .inr (7, [.ref a5_4, .ref a16_9, .ref a29_15, .ref a37_19, .ref a65_88, .null, .null, .int 0])), (a5_4, .inr (1, [.int 0, .ref (u9_6 1), .ref (u9_6 2), .ref (u9_6 3), .ref (u9_6 4), .ref (u9_6 5)])), (u9_6 1, .inl (cI, 8, .inl (fun _ => 0))), (u9_6 2, .inl (cI, 8, .inl (fun _ => 0))), (u9_6 3, .inl (cI, 8, .inl (fun _ => 0))), (u9_6 4, .inl (cI, 8, .inl (fun _ => 0))), (u9_6 5, .inl (cI, 64, .inl (fun _ => 0))), (a16_9, .inr (0, [.int 0, .int 100, .int 5, .ref (u20_11 1)])), (u20_11 1, .inl (cI, 8, .inl (fun _ => 0))), (a29_15, .inl (cI, 6, .inl (fun _ => 0))), (a37_19, .inl (cI, 6, .inl (upd (upd (upd (upd (upd (upd (fun _ => 0) 0 1) 1 1) 2 1) 3 1) 4 1) 5 1))), (a65_88, .inl (k0, 2, .inr (.inr (.inr (.inr (va_up (va_up (fun _ => none) 0 (some a83_98)) 1 (some a83_110))))))), (a83_98, .inr (5, [.ref (u87_100 1), .ref (u87_100 3)])), (u87_100 1, .inr (3, [.ref (u87_100 2), .int 0])), (u87_100 2, .inl (cI, 60, .inl (fun _ => 0))), (u87_100 3, .inl (cI, 60, .inl (fun _ => 0))), (a83_110, .inr (5, [.ref (u87_112 1), .ref (u87_112 3)])), (u87_112 1, .inr (3, [.ref (u87_112 2), .int 0])), (u87_112 2, .inl (cI, 60, .inl (fun _ => 0))), (u87_112 3, .inl (cI, 60, .inl (fun _ => 0)))] rfl rfl (by decide) rfl 107 rfl (fun u104_123 => ?_)
  refine g_t [0, 1] rfl ?_
  refine g_w (ws' := [(h, .inr (7, [.ref a5_4, .ref a16_9, .ref a29_15, .ref a37_19, .ref a65_88, .null, .null, .int 0])), (a5_4, .inr (1, [.int 0, .ref (u9_6 1), .ref (u9_6 2), .ref (u9_6 3), .ref (u9_6 4), .ref (u9_6 5)])), (u9_6 1, .inl (cI, 8, .inl (fun _ => 0))), (u9_6 2, .inl (cI, 8, .inl (fun _ => 0))), (u9_6 3, .inl (cI, 8, .inl (fun _ => 0))), (u9_6 4, .inl (cI, 8, .inl (fun _ => 0))), (u9_6 5, .inl (cI, 64, .inl (fun _ => 0))), (a16_9, .inr (0, [.int 0, .int 100, .int 5, .ref (u20_11 1)])), (u20_11 1, .inl (cI, 8, .inl (fun _ => 0))), (a29_15, .inl (cI, 6, .inl (fun _ => 0))), (a37_19, .inl (cI, 6, .inl (upd (upd (upd (upd (upd (upd (fun _ => 0) 0 1) 1 1) 2 1) 3 1) 4 1) 5 1))), (a65_88, .inl (k0, 2, .inr (.inr (.inr (.inr (va_up (va_up (fun _ => none) 0 (some a83_98)) 1 (some a83_110))))))), (a83_98, .inr (5, [.ref (u87_100 1), .ref (u87_100 3)])), (u87_100 1, .inr (3, [.ref (u87_100 2), .int 0])), (u87_100 2, .inl (cI, 60, .inl (fun _ => 0))), (u87_100 3, .inl (cI, 60, .inl (fun _ => 0))), (a83_110, .inr (5, [.ref (u87_112 1), .ref (u87_112 3)])), (u87_112 1, .inr (3, [.ref (u87_112 2), .int 0])), (u87_112 2, .inl (cI, 60, .inl (fun _ => 0))), (u87_112 3, .inl (cI, 60, .inl (fun _ => 0))), (a98_120, .inr (3, [.ref (u104_123 1), .int 0])), (u104_123 1, .inl (cI, 60, .inl (fun _ => 0)))]) rfl ?_
  refine g_putF F hin zc7 dX8_init_107 0 rfl 5 (by decide) m_210 rfl rfl (tyX8_ok 5 (by decide)) rfl rfl (Nat.le_of_ble_eq_true rfl) 110 rfl ?_
  refine g_w (ws' := [(h, .inr (7, [.ref a5_4, .ref a16_9, .ref a29_15, .ref a37_19, .ref a65_88, .ref a98_120, .null, .int 0])), (a5_4, .inr (1, [.int 0, .ref (u9_6 1), .ref (u9_6 2), .ref (u9_6 3), .ref (u9_6 4), .ref (u9_6 5)])), (u9_6 1, .inl (cI, 8, .inl (fun _ => 0))), (u9_6 2, .inl (cI, 8, .inl (fun _ => 0))), (u9_6 3, .inl (cI, 8, .inl (fun _ => 0))), (u9_6 4, .inl (cI, 8, .inl (fun _ => 0))), (u9_6 5, .inl (cI, 64, .inl (fun _ => 0))), (a16_9, .inr (0, [.int 0, .int 100, .int 5, .ref (u20_11 1)])), (u20_11 1, .inl (cI, 8, .inl (fun _ => 0))), (a29_15, .inl (cI, 6, .inl (fun _ => 0))), (a37_19, .inl (cI, 6, .inl (upd (upd (upd (upd (upd (upd (fun _ => 0) 0 1) 1 1) 2 1) 3 1) 4 1) 5 1))), (a65_88, .inl (k0, 2, .inr (.inr (.inr (.inr (va_up (va_up (fun _ => none) 0 (some a83_98)) 1 (some a83_110))))))), (a83_98, .inr (5, [.ref (u87_100 1), .ref (u87_100 3)])), (u87_100 1, .inr (3, [.ref (u87_100 2), .int 0])), (u87_100 2, .inl (cI, 60, .inl (fun _ => 0))), (u87_100 3, .inl (cI, 60, .inl (fun _ => 0))), (a83_110, .inr (5, [.ref (u87_112 1), .ref (u87_112 3)])), (u87_112 1, .inr (3, [.ref (u87_112 2), .int 0])), (u87_112 2, .inl (cI, 60, .inl (fun _ => 0))), (u87_112 3, .inl (cI, 60, .inl (fun _ => 0))), (a98_120, .inr (3, [.ref (u104_123 1), .int 0])), (u104_123 1, .inl (cI, 60, .inl (fun _ => 0)))]) rfl ?_
  refine g_aload_n F dX8_init_110 0 rfl 111 rfl ?_
  refine g_new F zc3 dX8_init_111 m_197 m_173 m_75 tyX4 tyX4_ok [.null, .int 0] (fun j hj => by rcases (show j = 0 ∨ j = 1 by omega) with rfl | rfl <;> rfl) (Nat.le_of_ble_eq_true rfl) (Nat.le_of_ble_eq_true rfl) 114 rfl (fun a111_126 => ?_)
  refine g_w (ws' := [(h, .inr (7, [.ref a5_4, .ref a16_9, .ref a29_15, .ref a37_19, .ref a65_88, .ref a98_120, .null, .int 0])), (a5_4, .inr (1, [.int 0, .ref (u9_6 1), .ref (u9_6 2), .ref (u9_6 3), .ref (u9_6 4), .ref (u9_6 5)])), (u9_6 1, .inl (cI, 8, .inl (fun _ => 0))), (u9_6 2, .inl (cI, 8, .inl (fun _ => 0))), (u9_6 3, .inl (cI, 8, .inl (fun _ => 0))), (u9_6 4, .inl (cI, 8, .inl (fun _ => 0))), (u9_6 5, .inl (cI, 64, .inl (fun _ => 0))), (a16_9, .inr (0, [.int 0, .int 100, .int 5, .ref (u20_11 1)])), (u20_11 1, .inl (cI, 8, .inl (fun _ => 0))), (a29_15, .inl (cI, 6, .inl (fun _ => 0))), (a37_19, .inl (cI, 6, .inl (upd (upd (upd (upd (upd (upd (fun _ => 0) 0 1) 1 1) 2 1) 3 1) 4 1) 5 1))), (a65_88, .inl (k0, 2, .inr (.inr (.inr (.inr (va_up (va_up (fun _ => none) 0 (some a83_98)) 1 (some a83_110))))))), (a83_98, .inr (5, [.ref (u87_100 1), .ref (u87_100 3)])), (u87_100 1, .inr (3, [.ref (u87_100 2), .int 0])), (u87_100 2, .inl (cI, 60, .inl (fun _ => 0))), (u87_100 3, .inl (cI, 60, .inl (fun _ => 0))), (a83_110, .inr (5, [.ref (u87_112 1), .ref (u87_112 3)])), (u87_112 1, .inr (3, [.ref (u87_112 2), .int 0])), (u87_112 2, .inl (cI, 60, .inl (fun _ => 0))), (u87_112 3, .inl (cI, 60, .inl (fun _ => 0))), (a98_120, .inr (3, [.ref (u104_123 1), .int 0])), (u104_123 1, .inl (cI, 60, .inl (fun _ => 0))), (a111_126, .inr (3, [.null, .int 0]))]) rfl ?_
  refine g_dup F dX8_init_114 rfl 115 rfl ?_
  refine g_bipush F dX8_init_115 24 (by decide) 117 rfl ?_
  refine g_callI F dX8_init_117 m_198 iX4_init m_175 rfl rfl (cX4_new 24 24 (by decide) (by decide) (Nat.le_of_ble_eq_true rfl)) rfl (Nat.le_of_ble_eq_true rfl) (Nat.le_of_ble_eq_true rfl) (Nat.le_of_ble_eq_true rfl) (Nat.le_of_ble_eq_true rfl) (Nat.le_of_ble_eq_true rfl) 22 rfl [0, 1, 2, 3, 4, 5, 6, 7, 8, 9, 10, 11, 12, 13, 14, 15, 16, 17, 18, 19, 20, 21] [(h, .inr (7, [.ref a5_4, .ref a16_9, .ref a29_15, .ref a37_19, .ref a65_88, .ref a98_120, .null, .int 0])), (a5_4, .inr (1, [.int 0, .ref (u9_6 1), .ref (u9_6 2), .ref (u9_6 3), .ref (u9_6 4), .ref (u9_6 5)])), (u9_6 1, .inl (cI, 8, .inl (fun _ => 0))), (u9_6 2, .inl (cI, 8, .inl (fun _ => 0))), (u9_6 3, .inl (cI, 8, .inl (fun _ => 0))), (u9_6 4, .inl (cI, 8, .inl (fun _ => 0))), (u9_6 5, .inl (cI, 64, .inl (fun _ => 0))), (a16_9, .inr (0, [.int 0, .int 100, .int 5, .ref (u20_11 1)])), (u20_11 1, .inl (cI, 8, .inl (fun _ => 0))), (a29_15, .inl (cI, 6, .inl (fun _ => 0))), (a37_19, .inl (cI, 6, .inl (upd (upd (upd (upd (upd (upd (fun _ => 0) 0 1) 1 1) 2 1) 3 1) 4 1) 5 1))), (a65_88, .inl (k0, 2, .inr (.inr (.inr (.inr (va_up (va_up (fun _ => none) 0 (some a83_98)) 1 (some a83_110))))))), (a83_98, .inr (5, [.ref (u87_100 1), .ref (u87_100 3)])), (u87_100 1, .inr (3, [.ref (u87_100 2), .int 0])), (u87_100 2, .inl (cI, 60, .inl (fun _ => 0))), (u87_100 3, .inl (cI, 60, .inl (fun _ => 0))), (a83_110, .inr (5, [.ref (u87_112 1), .ref (u87_112 3)])), (u87_112 1, .inr (3, [.ref (u87_112 2), .int 0])), (u87_112 2, .inl (cI, 60, .inl (fun _ => 0))), (u87_112 3, .inl (cI, 60, .inl (fun _ => 0))), (a98_120, .inr (3, [.ref (u104_123 1), .int 0])), (u104_123 1, .inl (cI, 60, .inl (fun _ => 0)))] rfl rfl (by decide) rfl 120 rfl (fun u117_129 => ?_)
  refine g_t [0, 1] rfl ?_
  refine g_w (ws' := [(h, .inr (7, [.ref a5_4, .ref a16_9, .ref a29_15, .ref a37_19, .ref a65_88, .ref a98_120, .null, .int 0])), (a5_4, .inr (1, [.int 0, .ref (u9_6 1), .ref (u9_6 2), .ref (u9_6 3), .ref (u9_6 4), .ref (u9_6 5)])), (u9_6 1, .inl (cI, 8, .inl (fun _ => 0))), (u9_6 2, .inl (cI, 8, .inl (fun _ => 0))), (u9_6 3, .inl (cI, 8, .inl (fun _ => 0))), (u9_6 4, .inl (cI, 8, .inl (fun _ => 0))), (u9_6 5, .inl (cI, 64, .inl (fun _ => 0))), (a16_9, .inr (0, [.int 0, .int 100, .int 5, .ref (u20_11 1)])), (u20_11 1, .inl (cI, 8, .inl (fun _ => 0))), (a29_15, .inl (cI, 6, .inl (fun _ => 0))), (a37_19, .inl (cI, 6, .inl (upd (upd (upd (upd (upd (upd (fun _ => 0) 0 1) 1 1) 2 1) 3 1) 4 1) 5 1))), (a65_88, .inl (k0, 2, .inr (.inr (.inr (.inr (va_up (va_up (fun _ => none) 0 (some a83_98)) 1 (some a83_110))))))), (a83_98, .inr (5, [.ref (u87_100 1), .ref (u87_100 3)])), (u87_100 1, .inr (3, [.ref (u87_100 2), .int 0])), (u87_100 2, .inl (cI, 60, .inl (fun _ => 0))), (u87_100 3, .inl (cI, 60, .inl (fun _ => 0))), (a83_110, .inr (5, [.ref (u87_112 1), .ref (u87_112 3)])), (u87_112 1, .inr (3, [.ref (u87_112 2), .int 0])), (u87_112 2, .inl (cI, 60, .inl (fun _ => 0))), (u87_112 3, .inl (cI, 60, .inl (fun _ => 0))), (a98_120, .inr (3, [.ref (u104_123 1), .int 0])), (u104_123 1, .inl (cI, 60, .inl (fun _ => 0))), (a111_126, .inr (3, [.ref (u117_129 1), .int 0])), (u117_129 1, .inl (cI, 24, .inl (fun _ => 0)))]) rfl ?_
  refine g_putF F hin zc7 dX8_init_120 0 rfl 6 (by decide) m_211 rfl rfl (tyX8_ok 6 (by decide)) rfl rfl (Nat.le_of_ble_eq_true rfl) 123 rfl ?_
  refine g_w (ws' := [(h, .inr (7, [.ref a5_4, .ref a16_9, .ref a29_15, .ref a37_19, .ref a65_88, .ref a98_120, .ref a111_126, .int 0])), (a5_4, .inr (1, [.int 0, .ref (u9_6 1), .ref (u9_6 2), .ref (u9_6 3), .ref (u9_6 4), .ref (u9_6 5)])), (u9_6 1, .inl (cI, 8, .inl (fun _ => 0))), (u9_6 2, .inl (cI, 8, .inl (fun _ => 0))), (u9_6 3, .inl (cI, 8, .inl (fun _ => 0))), (u9_6 4, .inl (cI, 8, .inl (fun _ => 0))), (u9_6 5, .inl (cI, 64, .inl (fun _ => 0))), (a16_9, .inr (0, [.int 0, .int 100, .int 5, .ref (u20_11 1)])), (u20_11 1, .inl (cI, 8, .inl (fun _ => 0))), (a29_15, .inl (cI, 6, .inl (fun _ => 0))), (a37_19, .inl (cI, 6, .inl (upd (upd (upd (upd (upd (upd (fun _ => 0) 0 1) 1 1) 2 1) 3 1) 4 1) 5 1))), (a65_88, .inl (k0, 2, .inr (.inr (.inr (.inr (va_up (va_up (fun _ => none) 0 (some a83_98)) 1 (some a83_110))))))), (a83_98, .inr (5, [.ref (u87_100 1), .ref (u87_100 3)])), (u87_100 1, .inr (3, [.ref (u87_100 2), .int 0])), (u87_100 2, .inl (cI, 60, .inl (fun _ => 0))), (u87_100 3, .inl (cI, 60, .inl (fun _ => 0))), (a83_110, .inr (5, [.ref (u87_112 1), .ref (u87_112 3)])), (u87_112 1, .inr (3, [.ref (u87_112 2), .int 0])), (u87_112 2, .inl (cI, 60, .inl (fun _ => 0))), (u87_112 3, .inl (cI, 60, .inl (fun _ => 0))), (a98_120, .inr (3, [.ref (u104_123 1), .int 0])), (u104_123 1, .inl (cI, 60, .inl (fun _ => 0))), (a111_126, .inr (3, [.ref (u117_129 1), .int 0])), (u117_129 1, .inl (cI, 24, .inl (fun _ => 0)))]) rfl ?_
  refine g_aload_n F dX8_init_123 0 rfl 124 rfl ?_
  refine g_iconst F dX8_init_124 1 (by decide) 125 rfl ?_
  refine g_put F zc7 dX8_init_125 0 rfl 7 (by decide) m_213 rfl (tyX8_ok 7 (by decide)) rfl rfl (Nat.le_of_ble_eq_true rfl) 128 rfl ?_
  refine g_w (ws' := [(h, .inr (7, [.ref a5_4, .ref a16_9, .ref a29_15, .ref a37_19, .ref a65_88, .ref a98_120, .ref a111_126, .int 1])), (a5_4, .inr (1, [.int 0, .ref (u9_6 1), .ref (u9_6 2), .ref (u9_6 3), .ref (u9_6 4), .ref (u9_6 5)])), (u9_6 1, .inl (cI, 8, .inl (fun _ => 0))), (u9_6 2, .inl (cI, 8, .inl (fun _ => 0))), (u9_6 3, .inl (cI, 8, .inl (fun _ => 0))), (u9_6 4, .inl (cI, 8, .inl (fun _ => 0))), (u9_6 5, .inl (cI, 64, .inl (fun _ => 0))), (a16_9, .inr (0, [.int 0, .int 100, .int 5, .ref (u20_11 1)])), (u20_11 1, .inl (cI, 8, .inl (fun _ => 0))), (a29_15, .inl (cI, 6, .inl (fun _ => 0))), (a37_19, .inl (cI, 6, .inl (upd (upd (upd (upd (upd (upd (fun _ => 0) 0 1) 1 1) 2 1) 3 1) 4 1) 5 1))), (a65_88, .inl (k0, 2, .inr (.inr (.inr (.inr (va_up (va_up (fun _ => none) 0 (some a83_98)) 1 (some a83_110))))))), (a83_98, .inr (5, [.ref (u87_100 1), .ref (u87_100 3)])), (u87_100 1, .inr (3, [.ref (u87_100 2), .int 0])), (u87_100 2, .inl (cI, 60, .inl (fun _ => 0))), (u87_100 3, .inl (cI, 60, .inl (fun _ => 0))), (a83_110, .inr (5, [.ref (u87_112 1), .ref (u87_112 3)])), (u87_112 1, .inr (3, [.ref (u87_112 2), .int 0])), (u87_112 2, .inl (cI, 60, .inl (fun _ => 0))), (u87_112 3, .inl (cI, 60, .inl (fun _ => 0))), (a98_120, .inr (3, [.ref (u104_123 1), .int 0])), (u104_123 1, .inl (cI, 60, .inl (fun _ => 0))), (a111_126, .inr (3, [.ref (u117_129 1), .int 0])), (u117_129 1, .inl (cI, 24, .inl (fun _ => 0)))]) rfl ?_
  exact g_ret F hr dX8_init_128 ((fun k => [h, a5_4, (u9_6 1), (u9_6 2), (u9_6 3), (u9_6 4), (u9_6 5), a16_9, (u20_11 1), a29_15, a37_19, a65_88, a83_98, (u87_100 1), (u87_100 2), (u87_100 3), a83_110, (u87_112 1), (u87_112 2), (u87_112 3), a98_120, (u104_123 1), a111_126, (u117_129 1)].getD k 0), k0) [0, 1, 2, 3, 4, 5, 6, 7, 8, 9, 10, 11, 12, 13, 14, 15, 16, 17, 18, 19, 20, 21, 22, 23] rfl rfl rfl [0, 1] rfl
def gX10_W (cI : ClassId) (h : Nat) (u : Nat → Nat) : va_W := [(h, .inr (9, [.ref (u 1), .ref (u 2), .ref (u 3), .int 0, .ref (u 4), .ref (u 5), .ref (u 6), .ref (u 7), .ref (u 8), .ref (u 9), .ref (u 10), .ref (u 11), .int 0, .int 0, .int 0, .int 0, .int 0, .ref (u 12), .int 0, .int 0])), (u 1, .inl (cI, 385, .inl (upd (upd (upd (upd (upd (upd (upd (upd (upd (fun _ => 0) 1 1) 3 100) 4 5) 8 1) 10 1) 12 1) 14 1) 16 1) 18 1))), (u 2, .inl (cI, 385, .inl (fun _ => 0))), (u 3, .inl (cI, 385, .inl (fun _ => 0))), (u 4, .inl (cI, 7, .inl (fun _ => 0))), (u 5, .inl (cI, 4, .inl (fun _ => 0))), (u 6, .inl (cI, 4, .inl (fun _ => 0))), (u 7, .inl (cI, 96, .inl (fun _ => 0))), (u 8, .inl (cI, 60, .inl (fun _ => 0))), (u 9, .inl (cI, 60, .inl (fun _ => 0))), (u 10, .inl (cI, 3, .inl (fun _ => 0))), (u 11, .inl (cI, 60, .inl (fun _ => 0))), (u 12, .inl (cI, 30, .inl (fun _ => 0)))]
set_option maxHeartbeats 4000000 in
set_option maxRecDepth 20000 in
theorem cX10_new {l : Launch} {D : va_G} {cI : ClassId} {sa h : Nat} : g_M (S := Nat → Nat) l D cI sa 1 yX10_init cX10_init 2 [.ref h] [(h, .inr (9, [.null, .null, .null, .int 0, .null, .null, .null, .null, .null, .null, .null, .null, .int 0, .int 0, .int 0, .int 0, .int 0, .null, .int 0, .int 0]))] 12 1479 (fun u => gX10_W cI h u) (fun u => [(cI, .int)]) := by
  refine g_intro (by decide) rfl (Nat.le_of_ble_eq_true rfl) (fun K A F hin hr => ?_)
  refine g_aload_n F dX10_init_0 0 rfl 1 rfl ?_
  refine g_objInit F dX10_init_1 m_929 (Nat.le_of_ble_eq_true rfl) (Nat.le_of_ble_eq_true rfl) 4 rfl ?_
  refine g_aload_n F dX10_init_4 0 rfl 5 rfl ?_
  refine g_sipush F dX10_init_5 385 (by decide) 8 rfl ?_
  refine g_newa F dX10_init_8 385 (by decide) (by decide) (Nat.le_of_ble_eq_true rfl) (Nat.le_of_ble_eq_true rfl) (Nat.le_of_ble_eq_true rfl) rfl 10 rfl (fun a8_5 => ?_)
  refine g_w (ws' := [(h, .inr (9, [.null, .null, .null, .int 0, .null, .null, .null, .null, .null, .null, .null, .null, .int 0, .int 0, .int 0, .int 0, .int 0, .null, .int 0, .int 0])), (a8_5, .inl (cI, 385, .inl (fun _ => 0)))]) rfl ?_
  refine g_putF F hin zc9 dX10_init_10 0 rfl 0 (by decide) m_930 rfl rfl (tyX10_ok 0 (by decide)) rfl rfl (Nat.le_of_ble_eq_true rfl) 13 rfl ?_
  refine g_w (ws' := [(h, .inr (9, [.ref a8_5, .null, .null, .int 0, .null, .null, .null, .null, .null, .null, .null, .null, .int 0, .int 0, .int 0, .int 0, .int 0, .null, .int 0, .int 0])), (a8_5, .inl (cI, 385, .inl (fun _ => 0)))]) rfl ?_
  refine g_aload_n F dX10_init_13 0 rfl 14 rfl ?_
  refine g_sipush F dX10_init_14 385 (by decide) 17 rfl ?_
  refine g_newa F dX10_init_17 385 (by decide) (by decide) (Nat.le_of_ble_eq_true rfl) (Nat.le_of_ble_eq_true rfl) (Nat.le_of_ble_eq_true rfl) rfl 19 rfl (fun a17_9 => ?_)
  refine g_w (ws' := [(h, .inr (9, [.ref a8_5, .null, .null, .int 0, .null, .null, .null, .null, .null, .null, .null, .null, .int 0, .int 0, .int 0, .int 0, .int 0, .null, .int 0, .int 0])), (a8_5, .inl (cI, 385, .inl (fun _ => 0))), (a17_9, .inl (cI, 385, .inl (fun _ => 0)))]) rfl ?_
  refine g_putF F hin zc9 dX10_init_19 0 rfl 1 (by decide) m_931 rfl rfl (tyX10_ok 1 (by decide)) rfl rfl (Nat.le_of_ble_eq_true rfl) 22 rfl ?_
  refine g_w (ws' := [(h, .inr (9, [.ref a8_5, .ref a17_9, .null, .int 0, .null, .null, .null, .null, .null, .null, .null, .null, .int 0, .int 0, .int 0, .int 0, .int 0, .null, .int 0, .int 0])), (a8_5, .inl (cI, 385, .inl (fun _ => 0))), (a17_9, .inl (cI, 385, .inl (fun _ => 0)))]) rfl ?_
  refine g_aload_n F dX10_init_22 0 rfl 23 rfl ?_
  refine g_sipush F dX10_init_23 385 (by decide) 26 rfl ?_
  refine g_newa F dX10_init_26 385 (by decide) (by decide) (Nat.le_of_ble_eq_true rfl) (Nat.le_of_ble_eq_true rfl) (Nat.le_of_ble_eq_true rfl) rfl 28 rfl (fun a26_13 => ?_)
  refine g_w (ws' := [(h, .inr (9, [.ref a8_5, .ref a17_9, .null, .int 0, .null, .null, .null, .null, .null, .null, .null, .null, .int 0, .int 0, .int 0, .int 0, .int 0, .null, .int 0, .int 0])), (a8_5, .inl (cI, 385, .inl (fun _ => 0))), (a17_9, .inl (cI, 385, .inl (fun _ => 0))), (a26_13, .inl (cI, 385, .inl (fun _ => 0)))]) rfl ?_
  refine g_putF F hin zc9 dX10_init_28 0 rfl 2 (by decide) m_932 rfl rfl (tyX10_ok 2 (by decide)) rfl rfl (Nat.le_of_ble_eq_true rfl) 31 rfl ?_
  refine g_w (ws' := [(h, .inr (9, [.ref a8_5, .ref a17_9, .ref a26_13, .int 0, .null, .null, .null, .null, .null, .null, .null, .null, .int 0, .int 0, .int 0, .int 0, .int 0, .null, .int 0, .int 0])), (a8_5, .inl (cI, 385, .inl (fun _ => 0))), (a17_9, .inl (cI, 385, .inl (fun _ => 0))), (a26_13, .inl (cI, 385, .inl (fun _ => 0)))]) rfl ?_
  refine g_aload_n F dX10_init_31 0 rfl 32 rfl ?_
  refine g_bipush F dX10_init_32 7 (by decide) 34 rfl ?_
  refine g_newa F dX10_init_34 7 (by decide) (by decide) (Nat.le_of_ble_eq_true rfl) (Nat.le_of_ble_eq_true rfl) (Nat.le_of_ble_eq_true rfl) rfl 36 rfl (fun a34_17 => ?_)
  refine g_w (ws' := [(h, .inr (9, [.ref a8_5, .ref a17_9, .ref a26_13, .int 0, .null, .null, .null, .null, .null, .null, .null, .null, .int 0, .int 0, .int 0, .int 0, .int 0, .null, .int 0, .int 0])), (a8_5, .inl (cI, 385, .inl (fun _ => 0))), (a17_9, .inl (cI, 385, .inl (fun _ => 0))), (a26_13, .inl (cI, 385, .inl (fun _ => 0))), (a34_17, .inl (cI, 7, .inl (fun _ => 0)))]) rfl ?_
  refine g_putF F hin zc9 dX10_init_36 0 rfl 4 (by decide) m_934 rfl rfl (tyX10_ok 4 (by decide)) rfl rfl (Nat.le_of_ble_eq_true rfl) 39 rfl ?_
  refine g_w (ws' := [(h, .inr (9, [.ref a8_5, .ref a17_9, .ref a26_13, .int 0, .ref a34_17, .null, .null, .null, .null, .null, .null, .null, .int 0, .int 0, .int 0, .int 0, .int 0, .null, .int 0, .int 0])), (a8_5, .inl (cI, 385, .inl (fun _ => 0))), (a17_9, .inl (cI, 385, .inl (fun _ => 0))), (a26_13, .inl (cI, 385, .inl (fun _ => 0))), (a34_17, .inl (cI, 7, .inl (fun _ => 0)))]) rfl ?_
  refine g_aload_n F dX10_init_39 0 rfl 40 rfl ?_
  refine g_iconst F dX10_init_40 4 (by decide) 41 rfl ?_
  refine g_newa F dX10_init_41 4 (by decide) (by decide) (Nat.le_of_ble_eq_true rfl) (Nat.le_of_ble_eq_true rfl) (Nat.le_of_ble_eq_true rfl) rfl 43 rfl (fun a41_21 => ?_)
  refine g_w (ws' := [(h, .inr (9, [.ref a8_5, .ref a17_9, .ref a26_13, .int 0, .ref a34_17, .null, .null, .null, .null, .null, .null, .null, .int 0, .int 0, .int 0, .int 0, .int 0, .null, .int 0, .int 0])), (a8_5, .inl (cI, 385, .inl (fun _ => 0))), (a17_9, .inl (cI, 385, .inl (fun _ => 0))), (a26_13, .inl (cI, 385, .inl (fun _ => 0))), (a34_17, .inl (cI, 7, .inl (fun _ => 0))), (a41_21, .inl (cI, 4, .inl (fun _ => 0)))]) rfl ?_
  refine g_putF F hin zc9 dX10_init_43 0 rfl 5 (by decide) m_935 rfl rfl (tyX10_ok 5 (by decide)) rfl rfl (Nat.le_of_ble_eq_true rfl) 46 rfl ?_
  refine g_w (ws' := [(h, .inr (9, [.ref a8_5, .ref a17_9, .ref a26_13, .int 0, .ref a34_17, .ref a41_21, .null, .null, .null, .null, .null, .null, .int 0, .int 0, .int 0, .int 0, .int 0, .null, .int 0, .int 0])), (a8_5, .inl (cI, 385, .inl (fun _ => 0))), (a17_9, .inl (cI, 385, .inl (fun _ => 0))), (a26_13, .inl (cI, 385, .inl (fun _ => 0))), (a34_17, .inl (cI, 7, .inl (fun _ => 0))), (a41_21, .inl (cI, 4, .inl (fun _ => 0)))]) rfl ?_
  refine g_aload_n F dX10_init_46 0 rfl 47 rfl ?_
  refine g_iconst F dX10_init_47 4 (by decide) 48 rfl ?_
  refine g_newa F dX10_init_48 4 (by decide) (by decide) (Nat.le_of_ble_eq_true rfl) (Nat.le_of_ble_eq_true rfl) (Nat.le_of_ble_eq_true rfl) rfl 50 rfl (fun a48_25 => ?_)
  refine g_w (ws' := [(h, .inr (9, [.ref a8_5, .ref a17_9, .ref a26_13, .int 0, .ref a34_17, .ref a41_21, .null, .null, .null, .null, .null, .null, .int 0, .int 0, .int 0, .int 0, .int 0, .null, .int 0, .int 0])), (a8_5, .inl (cI, 385, .inl (fun _ => 0))), (a17_9, .inl (cI, 385, .inl (fun _ => 0))), (a26_13, .inl (cI, 385, .inl (fun _ => 0))), (a34_17, .inl (cI, 7, .inl (fun _ => 0))), (a41_21, .inl (cI, 4, .inl (fun _ => 0))), (a48_25, .inl (cI, 4, .inl (fun _ => 0)))]) rfl ?_
  refine g_putF F hin zc9 dX10_init_50 0 rfl 6 (by decide) m_936 rfl rfl (tyX10_ok 6 (by decide)) rfl rfl (Nat.le_of_ble_eq_true rfl) 53 rfl ?_
  refine g_w (ws' := [(h, .inr (9, [.ref a8_5, .ref a17_9, .ref a26_13, .int 0, .ref a34_17, .ref a41_21, .ref a48_25, .null, .null, .null, .null, .null, .int 0, .int 0, .int 0, .int 0, .int 0, .null, .int 0, .int 0])), (a8_5, .inl (cI, 385, .inl (fun _ => 0))), (a17_9, .inl (cI, 385, .inl (fun _ => 0))), (a26_13, .inl (cI, 385, .inl (fun _ => 0))), (a34_17, .inl (cI, 7, .inl (fun _ => 0))), (a41_21, .inl (cI, 4, .inl (fun _ => 0))), (a48_25, .inl (cI, 4, .inl (fun _ => 0)))]) rfl ?_
  refine g_aload_n F dX10_init_53 0 rfl 54 rfl ?_
  refine g_bipush F dX10_init_54 96 (by decide) 56 rfl ?_
  refine g_newa F dX10_init_56 96 (by decide) (by decide) (Nat.le_of_ble_eq_true rfl) (Nat.le_of_ble_eq_true rfl) (Nat.le_of_ble_eq_true rfl) rfl 58 rfl (fun a56_29 => ?_)
  refine g_w (ws' := [(h, .inr (9, [.ref a8_5, .ref a17_9, .ref a26_13, .int 0, .ref a34_17, .ref a41_21, .ref a48_25, .null, .null, .null, .null, .null, .int 0, .int 0, .int 0, .int 0, .int 0, .null, .int 0, .int 0])), (a8_5, .inl (cI, 385, .inl (fun _ => 0))), (a17_9, .inl (cI, 385, .inl (fun _ => 0))), (a26_13, .inl (cI, 385, .inl (fun _ => 0))), (a34_17, .inl (cI, 7, .inl (fun _ => 0))), (a41_21, .inl (cI, 4, .inl (fun _ => 0))), (a48_25, .inl (cI, 4, .inl (fun _ => 0))), (a56_29, .inl (cI, 96, .inl (fun _ => 0)))]) rfl ?_
  refine g_putF F hin zc9 dX10_init_58 0 rfl 7 (by decide) m_937 rfl rfl (tyX10_ok 7 (by decide)) rfl rfl (Nat.le_of_ble_eq_true rfl) 61 rfl ?_
  refine g_w (ws' := [(h, .inr (9, [.ref a8_5, .ref a17_9, .ref a26_13, .int 0, .ref a34_17, .ref a41_21, .ref a48_25, .ref a56_29, .null, .null, .null, .null, .int 0, .int 0, .int 0, .int 0, .int 0, .null, .int 0, .int 0])), (a8_5, .inl (cI, 385, .inl (fun _ => 0))), (a17_9, .inl (cI, 385, .inl (fun _ => 0))), (a26_13, .inl (cI, 385, .inl (fun _ => 0))), (a34_17, .inl (cI, 7, .inl (fun _ => 0))), (a41_21, .inl (cI, 4, .inl (fun _ => 0))), (a48_25, .inl (cI, 4, .inl (fun _ => 0))), (a56_29, .inl (cI, 96, .inl (fun _ => 0)))]) rfl ?_
  refine g_aload_n F dX10_init_61 0 rfl 62 rfl ?_
  refine g_bipush F dX10_init_62 60 (by decide) 64 rfl ?_
  refine g_newa F dX10_init_64 60 (by decide) (by decide) (Nat.le_of_ble_eq_true rfl) (Nat.le_of_ble_eq_true rfl) (Nat.le_of_ble_eq_true rfl) rfl 66 rfl (fun a64_33 => ?_)
  refine g_w (ws' := [(h, .inr (9, [.ref a8_5, .ref a17_9, .ref a26_13, .int 0, .ref a34_17, .ref a41_21, .ref a48_25, .ref a56_29, .null, .null, .null, .null, .int 0, .int 0, .int 0, .int 0, .int 0, .null, .int 0, .int 0])), (a8_5, .inl (cI, 385, .inl (fun _ => 0))), (a17_9, .inl (cI, 385, .inl (fun _ => 0))), (a26_13, .inl (cI, 385, .inl (fun _ => 0))), (a34_17, .inl (cI, 7, .inl (fun _ => 0))), (a41_21, .inl (cI, 4, .inl (fun _ => 0))), (a48_25, .inl (cI, 4, .inl (fun _ => 0))), (a56_29, .inl (cI, 96, .inl (fun _ => 0))), (a64_33, .inl (cI, 60, .inl (fun _ => 0)))]) rfl ?_
  refine g_putF F hin zc9 dX10_init_66 0 rfl 8 (by decide) m_938 rfl rfl (tyX10_ok 8 (by decide)) rfl rfl (Nat.le_of_ble_eq_true rfl) 69 rfl ?_
  refine g_w (ws' := [(h, .inr (9, [.ref a8_5, .ref a17_9, .ref a26_13, .int 0, .ref a34_17, .ref a41_21, .ref a48_25, .ref a56_29, .ref a64_33, .null, .null, .null, .int 0, .int 0, .int 0, .int 0, .int 0, .null, .int 0, .int 0])), (a8_5, .inl (cI, 385, .inl (fun _ => 0))), (a17_9, .inl (cI, 385, .inl (fun _ => 0))), (a26_13, .inl (cI, 385, .inl (fun _ => 0))), (a34_17, .inl (cI, 7, .inl (fun _ => 0))), (a41_21, .inl (cI, 4, .inl (fun _ => 0))), (a48_25, .inl (cI, 4, .inl (fun _ => 0))), (a56_29, .inl (cI, 96, .inl (fun _ => 0))), (a64_33, .inl (cI, 60, .inl (fun _ => 0)))]) rfl ?_
  refine g_aload_n F dX10_init_69 0 rfl 70 rfl ?_
  refine g_bipush F dX10_init_70 60 (by decide) 72 rfl ?_
  refine g_newa F dX10_init_72 60 (by decide) (by decide) (Nat.le_of_ble_eq_true rfl) (Nat.le_of_ble_eq_true rfl) (Nat.le_of_ble_eq_true rfl) rfl 74 rfl (fun a72_37 => ?_)
  refine g_w (ws' := [(h, .inr (9, [.ref a8_5, .ref a17_9, .ref a26_13, .int 0, .ref a34_17, .ref a41_21, .ref a48_25, .ref a56_29, .ref a64_33, .null, .null, .null, .int 0, .int 0, .int 0, .int 0, .int 0, .null, .int 0, .int 0])), (a8_5, .inl (cI, 385, .inl (fun _ => 0))), (a17_9, .inl (cI, 385, .inl (fun _ => 0))), (a26_13, .inl (cI, 385, .inl (fun _ => 0))), (a34_17, .inl (cI, 7, .inl (fun _ => 0))), (a41_21, .inl (cI, 4, .inl (fun _ => 0))), (a48_25, .inl (cI, 4, .inl (fun _ => 0))), (a56_29, .inl (cI, 96, .inl (fun _ => 0))), (a64_33, .inl (cI, 60, .inl (fun _ => 0))), (a72_37, .inl (cI, 60, .inl (fun _ => 0)))]) rfl ?_
  refine g_putF F hin zc9 dX10_init_74 0 rfl 9 (by decide) m_939 rfl rfl (tyX10_ok 9 (by decide)) rfl rfl (Nat.le_of_ble_eq_true rfl) 77 rfl ?_
  refine g_w (ws' := [(h, .inr (9, [.ref a8_5, .ref a17_9, .ref a26_13, .int 0, .ref a34_17, .ref a41_21, .ref a48_25, .ref a56_29, .ref a64_33, .ref a72_37, .null, .null, .int 0, .int 0, .int 0, .int 0, .int 0, .null, .int 0, .int 0])), (a8_5, .inl (cI, 385, .inl (fun _ => 0))), (a17_9, .inl (cI, 385, .inl (fun _ => 0))), (a26_13, .inl (cI, 385, .inl (fun _ => 0))), (a34_17, .inl (cI, 7, .inl (fun _ => 0))), (a41_21, .inl (cI, 4, .inl (fun _ => 0))), (a48_25, .inl (cI, 4, .inl (fun _ => 0))), (a56_29, .inl (cI, 96, .inl (fun _ => 0))), (a64_33, .inl (cI, 60, .inl (fun _ => 0))), (a72_37, .inl (cI, 60, .inl (fun _ => 0)))]) rfl ?_
  refine g_aload_n F dX10_init_77 0 rfl 78 rfl ?_
  refine g_iconst F dX10_init_78 3 (by decide) 79 rfl ?_
  refine g_newa F dX10_init_79 3 (by decide) (by decide) (Nat.le_of_ble_eq_true rfl) (Nat.le_of_ble_eq_true rfl) (Nat.le_of_ble_eq_true rfl) rfl 81 rfl (fun a79_41 => ?_)
  refine g_w (ws' := [(h, .inr (9, [.ref a8_5, .ref a17_9, .ref a26_13, .int 0, .ref a34_17, .ref a41_21, .ref a48_25, .ref a56_29, .ref a64_33, .ref a72_37, .null, .null, .int 0, .int 0, .int 0, .int 0, .int 0, .null, .int 0, .int 0])), (a8_5, .inl (cI, 385, .inl (fun _ => 0))), (a17_9, .inl (cI, 385, .inl (fun _ => 0))), (a26_13, .inl (cI, 385, .inl (fun _ => 0))), (a34_17, .inl (cI, 7, .inl (fun _ => 0))), (a41_21, .inl (cI, 4, .inl (fun _ => 0))), (a48_25, .inl (cI, 4, .inl (fun _ => 0))), (a56_29, .inl (cI, 96, .inl (fun _ => 0))), (a64_33, .inl (cI, 60, .inl (fun _ => 0))), (a72_37, .inl (cI, 60, .inl (fun _ => 0))), (a79_41, .inl (cI, 3, .inl (fun _ => 0)))]) rfl ?_
  refine g_putF F hin zc9 dX10_init_81 0 rfl 10 (by decide) m_940 rfl rfl (tyX10_ok 10 (by decide)) rfl rfl (Nat.le_of_ble_eq_true rfl) 84 rfl ?_
  refine g_w (ws' := [(h, .inr (9, [.ref a8_5, .ref a17_9, .ref a26_13, .int 0, .ref a34_17, .ref a41_21, .ref a48_25, .ref a56_29, .ref a64_33, .ref a72_37, .ref a79_41, .null, .int 0, .int 0, .int 0, .int 0, .int 0, .null, .int 0, .int 0])), (a8_5, .inl (cI, 385, .inl (fun _ => 0))), (a17_9, .inl (cI, 385, .inl (fun _ => 0))), (a26_13, .inl (cI, 385, .inl (fun _ => 0))), (a34_17, .inl (cI, 7, .inl (fun _ => 0))), (a41_21, .inl (cI, 4, .inl (fun _ => 0))), (a48_25, .inl (cI, 4, .inl (fun _ => 0))), (a56_29, .inl (cI, 96, .inl (fun _ => 0))), (a64_33, .inl (cI, 60, .inl (fun _ => 0))), (a72_37, .inl (cI, 60, .inl (fun _ => 0))), (a79_41, .inl (cI, 3, .inl (fun _ => 0)))]) rfl ?_
  refine g_aload_n F dX10_init_84 0 rfl 85 rfl ?_
  refine g_bipush F dX10_init_85 60 (by decide) 87 rfl ?_
  refine g_newa F dX10_init_87 60 (by decide) (by decide) (Nat.le_of_ble_eq_true rfl) (Nat.le_of_ble_eq_true rfl) (Nat.le_of_ble_eq_true rfl) rfl 89 rfl (fun a87_45 => ?_)
  refine g_w (ws' := [(h, .inr (9, [.ref a8_5, .ref a17_9, .ref a26_13, .int 0, .ref a34_17, .ref a41_21, .ref a48_25, .ref a56_29, .ref a64_33, .ref a72_37, .ref a79_41, .null, .int 0, .int 0, .int 0, .int 0, .int 0, .null, .int 0, .int 0])), (a8_5, .inl (cI, 385, .inl (fun _ => 0))), (a17_9, .inl (cI, 385, .inl (fun _ => 0))), (a26_13, .inl (cI, 385, .inl (fun _ => 0))), (a34_17, .inl (cI, 7, .inl (fun _ => 0))), (a41_21, .inl (cI, 4, .inl (fun _ => 0))), (a48_25, .inl (cI, 4, .inl (fun _ => 0))), (a56_29, .inl (cI, 96, .inl (fun _ => 0))), (a64_33, .inl (cI, 60, .inl (fun _ => 0))), (a72_37, .inl (cI, 60, .inl (fun _ => 0))), (a79_41, .inl (cI, 3, .inl (fun _ => 0))), (a87_45, .inl (cI, 60, .inl (fun _ => 0)))]) rfl ?_
  refine g_putF F hin zc9 dX10_init_89 0 rfl 11 (by decide) m_941 rfl rfl (tyX10_ok 11 (by decide)) rfl rfl (Nat.le_of_ble_eq_true rfl) 92 rfl ?_
  refine g_w (ws' := [(h, .inr (9, [.ref a8_5, .ref a17_9, .ref a26_13, .int 0, .ref a34_17, .ref a41_21, .ref a48_25, .ref a56_29, .ref a64_33, .ref a72_37, .ref a79_41, .ref a87_45, .int 0, .int 0, .int 0, .int 0, .int 0, .null, .int 0, .int 0])), (a8_5, .inl (cI, 385, .inl (fun _ => 0))), (a17_9, .inl (cI, 385, .inl (fun _ => 0))), (a26_13, .inl (cI, 385, .inl (fun _ => 0))), (a34_17, .inl (cI, 7, .inl (fun _ => 0))), (a41_21, .inl (cI, 4, .inl (fun _ => 0))), (a48_25, .inl (cI, 4, .inl (fun _ => 0))), (a56_29, .inl (cI, 96, .inl (fun _ => 0))), (a64_33, .inl (cI, 60, .inl (fun _ => 0))), (a72_37, .inl (cI, 60, .inl (fun _ => 0))), (a79_41, .inl (cI, 3, .inl (fun _ => 0))), (a87_45, .inl (cI, 60, .inl (fun _ => 0)))]) rfl ?_
  refine g_aload_n F dX10_init_92 0 rfl 93 rfl ?_
  refine g_bipush F dX10_init_93 30 (by decide) 95 rfl ?_
  refine g_newa F dX10_init_95 30 (by decide) (by decide) (Nat.le_of_ble_eq_true rfl) (Nat.le_of_ble_eq_true rfl) (Nat.le_of_ble_eq_true rfl) rfl 97 rfl (fun a95_49 => ?_)
  refine g_w (ws' := [(h, .inr (9, [.ref a8_5, .ref a17_9, .ref a26_13, .int 0, .ref a34_17, .ref a41_21, .ref a48_25, .ref a56_29, .ref a64_33, .ref a72_37, .ref a79_41, .ref a87_45, .int 0, .int 0, .int 0, .int 0, .int 0, .null, .int 0, .int 0])), (a8_5, .inl (cI, 385, .inl (fun _ => 0))), (a17_9, .inl (cI, 385, .inl (fun _ => 0))), (a26_13, .inl (cI, 385, .inl (fun _ => 0))), (a34_17, .inl (cI, 7, .inl (fun _ => 0))), (a41_21, .inl (cI, 4, .inl (fun _ => 0))), (a48_25, .inl (cI, 4, .inl (fun _ => 0))), (a56_29, .inl (cI, 96, .inl (fun _ => 0))), (a64_33, .inl (cI, 60, .inl (fun _ => 0))), (a72_37, .inl (cI, 60, .inl (fun _ => 0))), (a79_41, .inl (cI, 3, .inl (fun _ => 0))), (a87_45, .inl (cI, 60, .inl (fun _ => 0))), (a95_49, .inl (cI, 30, .inl (fun _ => 0)))]) rfl ?_
  refine g_putF F hin zc9 dX10_init_97 0 rfl 17 (by decide) m_947 rfl rfl (tyX10_ok 17 (by decide)) rfl rfl (Nat.le_of_ble_eq_true rfl) 100 rfl ?_
  refine g_w (ws' := [(h, .inr (9, [.ref a8_5, .ref a17_9, .ref a26_13, .int 0, .ref a34_17, .ref a41_21, .ref a48_25, .ref a56_29, .ref a64_33, .ref a72_37, .ref a79_41, .ref a87_45, .int 0, .int 0, .int 0, .int 0, .int 0, .ref a95_49, .int 0, .int 0])), (a8_5, .inl (cI, 385, .inl (fun _ => 0))), (a17_9, .inl (cI, 385, .inl (fun _ => 0))), (a26_13, .inl (cI, 385, .inl (fun _ => 0))), (a34_17, .inl (cI, 7, .inl (fun _ => 0))), (a41_21, .inl (cI, 4, .inl (fun _ => 0))), (a48_25, .inl (cI, 4, .inl (fun _ => 0))), (a56_29, .inl (cI, 96, .inl (fun _ => 0))), (a64_33, .inl (cI, 60, .inl (fun _ => 0))), (a72_37, .inl (cI, 60, .inl (fun _ => 0))), (a79_41, .inl (cI, 3, .inl (fun _ => 0))), (a87_45, .inl (cI, 60, .inl (fun _ => 0))), (a95_49, .inl (cI, 30, .inl (fun _ => 0)))]) rfl ?_
  refine g_aload_n F dX10_init_100 0 rfl 101 rfl ?_
  refine g_get F zc9 dX10_init_101 0 rfl 0 (by decide) (.inl m_930) (.ref a8_5) rfl 104 rfl ?_
  refine g_iconst F dX10_init_104 1 (by decide) 105 rfl ?_
  refine g_iconst F dX10_init_105 1 (by decide) 106 rfl ?_
  refine g_iast F dX10_init_106 1 rfl rfl (vp_in_nI (n := 1) (by decide) (by decide)) 107 rfl ?_
  refine g_w (ws' := [(h, .inr (9, [.ref a8_5, .ref a17_9, .ref a26_13, .int 0, .ref a34_17, .ref a41_21, .ref a48_25, .ref a56_29, .ref a64_33, .ref a72_37, .ref a79_41, .ref a87_45, .int 0, .int 0, .int 0, .int 0, .int 0, .ref a95_49, .int 0, .int 0])), (a8_5, .inl (cI, 385, .inl (upd (fun _ => 0) 1 1))), (a17_9, .inl (cI, 385, .inl (fun _ => 0))), (a26_13, .inl (cI, 385, .inl (fun _ => 0))), (a34_17, .inl (cI, 7, .inl (fun _ => 0))), (a41_21, .inl (cI, 4, .inl (fun _ => 0))), (a48_25, .inl (cI, 4, .inl (fun _ => 0))), (a56_29, .inl (cI, 96, .inl (fun _ => 0))), (a64_33, .inl (cI, 60, .inl (fun _ => 0))), (a72_37, .inl (cI, 60, .inl (fun _ => 0))), (a79_41, .inl (cI, 3, .inl (fun _ => 0))), (a87_45, .inl (cI, 60, .inl (fun _ => 0))), (a95_49, .inl (cI, 30, .inl (fun _ => 0)))]) rfl ?_
  refine g_aload_n F dX10_init_107 0 rfl 108 rfl ?_
  refine g_get F zc9 dX10_init_108 0 rfl 0 (by decide) (.inl m_930) (.ref a8_5) rfl 111 rfl ?_
  refine g_iconst F dX10_init_111 3 (by decide) 112 rfl ?_
  refine g_bipush F dX10_init_112 100 (by decide) 114 rfl ?_
  refine g_iast F dX10_init_114 1 rfl rfl (vp_in_nI (n := 3) (by decide) (by decide)) 115 rfl ?_
  refine g_w (ws' := [(h, .inr (9, [.ref a8_5, .ref a17_9, .ref a26_13, .int 0, .ref a34_17, .ref a41_21, .ref a48_25, .ref a56_29, .ref a64_33, .ref a72_37, .ref a79_41, .ref a87_45, .int 0, .int 0, .int 0, .int 0, .int 0, .ref a95_49, .int 0, .int 0])), (a8_5, .inl (cI, 385, .inl (upd (upd (fun _ => 0) 1 1) 3 100))), (a17_9, .inl (cI, 385, .inl (fun _ => 0))), (a26_13, .inl (cI, 385, .inl (fun _ => 0))), (a34_17, .inl (cI, 7, .inl (fun _ => 0))), (a41_21, .inl (cI, 4, .inl (fun _ => 0))), (a48_25, .inl (cI, 4, .inl (fun _ => 0))), (a56_29, .inl (cI, 96, .inl (fun _ => 0))), (a64_33, .inl (cI, 60, .inl (fun _ => 0))), (a72_37, .inl (cI, 60, .inl (fun _ => 0))), (a79_41, .inl (cI, 3, .inl (fun _ => 0))), (a87_45, .inl (cI, 60, .inl (fun _ => 0))), (a95_49, .inl (cI, 30, .inl (fun _ => 0)))]) rfl ?_
  refine g_aload_n F dX10_init_115 0 rfl 116 rfl ?_
  refine g_get F zc9 dX10_init_116 0 rfl 0 (by decide) (.inl m_930) (.ref a8_5) rfl 119 rfl ?_
  refine g_iconst F dX10_init_119 4 (by decide) 120 rfl ?_
  refine g_iconst F dX10_init_120 5 (by decide) 121 rfl ?_
  refine g_iast F dX10_init_121 1 rfl rfl (vp_in_nI (n := 4) (by decide) (by decide)) 122 rfl ?_
  refine g_w (ws' := [(h, .inr (9, [.ref a8_5, .ref a17_9, .ref a26_13, .int 0, .ref a34_17, .ref a41_21, .ref a48_25, .ref a56_29, .ref a64_33, .ref a72_37, .ref a79_41, .ref a87_45, .int 0, .int 0, .int 0, .int 0, .int 0, .ref a95_49, .int 0, .int 0])), (a8_5, .inl (cI, 385, .inl (upd (upd (upd (fun _ => 0) 1 1) 3 100) 4 5))), (a17_9, .inl (cI, 385, .inl (fun _ => 0))), (a26_13, .inl (cI, 385, .inl (fun _ => 0))), (a34_17, .inl (cI, 7, .inl (fun _ => 0))), (a41_21, .inl (cI, 4, .inl (fun _ => 0))), (a48_25, .inl (cI, 4, .inl (fun _ => 0))), (a56_29, .inl (cI, 96, .inl (fun _ => 0))), (a64_33, .inl (cI, 60, .inl (fun _ => 0))), (a72_37, .inl (cI, 60, .inl (fun _ => 0))), (a79_41, .inl (cI, 3, .inl (fun _ => 0))), (a87_45, .inl (cI, 60, .inl (fun _ => 0))), (a95_49, .inl (cI, 30, .inl (fun _ => 0)))]) rfl ?_
  refine g_iconst F dX10_init_122 0 (by decide) 123 rfl ?_
  refine g_istore_n F dX10_init_123 [(0, _), (1, _)] rfl (by decide) 124 rfl ?_
  refine g_iload_n F dX10_init_124 1 rfl 125 rfl ?_
  refine g_bipush F dX10_init_125 6 (by decide) 127 rfl ?_
  refine g_icmp_ge F dX10_init_127 150 (by decide) 130 rfl (fun hc => absurd hc (by decide)) (fun hc => ?_)
  refine g_aload_n F dX10_init_130 0 rfl 131 rfl ?_
  refine g_get F zc9 dX10_init_131 0 rfl 0 (by decide) (.inl m_930) (.ref a8_5) rfl 134 rfl ?_
  refine g_bipush F dX10_init_134 7 (by decide) 136 rfl ?_
  refine g_iconst F dX10_init_136 2 (by decide) 137 rfl ?_
  refine g_iload_n F dX10_init_137 1 rfl 138 rfl ?_
  refine g_imul F dX10_init_138 139 rfl ?_
  rw [show (2 : Int32) * 0 = 0 by decide]
  refine g_iadd F dX10_init_139 140 rfl ?_
  rw [show (7 : Int32) + 0 = 7 by decide]
  refine g_iconst F dX10_init_140 1 (by decide) 141 rfl ?_
  refine g_iadd F dX10_init_141 142 rfl ?_
  rw [show (7 : Int32) + 1 = 8 by decide]
  refine g_iconst F dX10_init_142 1 (by decide) 143 rfl ?_
  refine g_iast F dX10_init_143 1 rfl rfl (vp_in_nI (n := 8) (by decide) (by decide)) 144 rfl ?_
  refine g_w (ws' := [(h, .inr (9, [.ref a8_5, .ref a17_9, .ref a26_13, .int 0, .ref a34_17, .ref a41_21, .ref a48_25, .ref a56_29, .ref a64_33, .ref a72_37, .ref a79_41, .ref a87_45, .int 0, .int 0, .int 0, .int 0, .int 0, .ref a95_49, .int 0, .int 0])), (a8_5, .inl (cI, 385, .inl (upd (upd (upd (upd (fun _ => 0) 1 1) 3 100) 4 5) 8 1))), (a17_9, .inl (cI, 385, .inl (fun _ => 0))), (a26_13, .inl (cI, 385, .inl (fun _ => 0))), (a34_17, .inl (cI, 7, .inl (fun _ => 0))), (a41_21, .inl (cI, 4, .inl (fun _ => 0))), (a48_25, .inl (cI, 4, .inl (fun _ => 0))), (a56_29, .inl (cI, 96, .inl (fun _ => 0))), (a64_33, .inl (cI, 60, .inl (fun _ => 0))), (a72_37, .inl (cI, 60, .inl (fun _ => 0))), (a79_41, .inl (cI, 3, .inl (fun _ => 0))), (a87_45, .inl (cI, 60, .inl (fun _ => 0))), (a95_49, .inl (cI, 30, .inl (fun _ => 0)))]) rfl ?_
  refine g_iinc F dX10_init_144 1 rfl 1 (by decide) [(0, _), (1, .int 1)] rfl (by decide) 147 rfl ?_
  refine g_goto F dX10_init_147 124 (by decide) ?_
  refine g_iload_n F dX10_init_124 1 rfl 125 rfl ?_
  refine g_bipush F dX10_init_125 6 (by decide) 127 rfl ?_
  refine g_icmp_ge F dX10_init_127 150 (by decide) 130 rfl (fun hc => absurd hc (by decide)) (fun hc => ?_)
  refine g_aload_n F dX10_init_130 0 rfl 131 rfl ?_
  refine g_get F zc9 dX10_init_131 0 rfl 0 (by decide) (.inl m_930) (.ref a8_5) rfl 134 rfl ?_
  refine g_bipush F dX10_init_134 7 (by decide) 136 rfl ?_
  refine g_iconst F dX10_init_136 2 (by decide) 137 rfl ?_
  refine g_iload_n F dX10_init_137 1 rfl 138 rfl ?_
  refine g_imul F dX10_init_138 139 rfl ?_
  rw [show (2 : Int32) * 1 = 2 by decide]
  refine g_iadd F dX10_init_139 140 rfl ?_
  rw [show (7 : Int32) + 2 = 9 by decide]
  refine g_iconst F dX10_init_140 1 (by decide) 141 rfl ?_
  refine g_iadd F dX10_init_141 142 rfl ?_
  rw [show (9 : Int32) + 1 = 10 by decide]
  refine g_iconst F dX10_init_142 1 (by decide) 143 rfl ?_
  refine g_iast F dX10_init_143 1 rfl rfl (vp_in_nI (n := 10) (by decide) (by decide)) 144 rfl ?_
  refine g_w (ws' := [(h, .inr (9, [.ref a8_5, .ref a17_9, .ref a26_13, .int 0, .ref a34_17, .ref a41_21, .ref a48_25, .ref a56_29, .ref a64_33, .ref a72_37, .ref a79_41, .ref a87_45, .int 0, .int 0, .int 0, .int 0, .int 0, .ref a95_49, .int 0, .int 0])), (a8_5, .inl (cI, 385, .inl (upd (upd (upd (upd (upd (fun _ => 0) 1 1) 3 100) 4 5) 8 1) 10 1))), (a17_9, .inl (cI, 385, .inl (fun _ => 0))), (a26_13, .inl (cI, 385, .inl (fun _ => 0))), (a34_17, .inl (cI, 7, .inl (fun _ => 0))), (a41_21, .inl (cI, 4, .inl (fun _ => 0))), (a48_25, .inl (cI, 4, .inl (fun _ => 0))), (a56_29, .inl (cI, 96, .inl (fun _ => 0))), (a64_33, .inl (cI, 60, .inl (fun _ => 0))), (a72_37, .inl (cI, 60, .inl (fun _ => 0))), (a79_41, .inl (cI, 3, .inl (fun _ => 0))), (a87_45, .inl (cI, 60, .inl (fun _ => 0))), (a95_49, .inl (cI, 30, .inl (fun _ => 0)))]) rfl ?_
  refine g_iinc F dX10_init_144 1 rfl 1 (by decide) [(0, _), (1, .int 2)] rfl (by decide) 147 rfl ?_
  refine g_goto F dX10_init_147 124 (by decide) ?_
  refine g_iload_n F dX10_init_124 1 rfl 125 rfl ?_
  refine g_bipush F dX10_init_125 6 (by decide) 127 rfl ?_
  refine g_icmp_ge F dX10_init_127 150 (by decide) 130 rfl (fun hc => absurd hc (by decide)) (fun hc => ?_)
  refine g_aload_n F dX10_init_130 0 rfl 131 rfl ?_
  refine g_get F zc9 dX10_init_131 0 rfl 0 (by decide) (.inl m_930) (.ref a8_5) rfl 134 rfl ?_
  refine g_bipush F dX10_init_134 7 (by decide) 136 rfl ?_
  refine g_iconst F dX10_init_136 2 (by decide) 137 rfl ?_
  refine g_iload_n F dX10_init_137 1 rfl 138 rfl ?_
  refine g_imul F dX10_init_138 139 rfl ?_
  rw [show (2 : Int32) * 2 = 4 by decide]
  refine g_iadd F dX10_init_139 140 rfl ?_
  rw [show (7 : Int32) + 4 = 11 by decide]
  refine g_iconst F dX10_init_140 1 (by decide) 141 rfl ?_
  refine g_iadd F dX10_init_141 142 rfl ?_
  rw [show (11 : Int32) + 1 = 12 by decide]
  refine g_iconst F dX10_init_142 1 (by decide) 143 rfl ?_
  refine g_iast F dX10_init_143 1 rfl rfl (vp_in_nI (n := 12) (by decide) (by decide)) 144 rfl ?_
  refine g_w (ws' := [(h, .inr (9, [.ref a8_5, .ref a17_9, .ref a26_13, .int 0, .ref a34_17, .ref a41_21, .ref a48_25, .ref a56_29, .ref a64_33, .ref a72_37, .ref a79_41, .ref a87_45, .int 0, .int 0, .int 0, .int 0, .int 0, .ref a95_49, .int 0, .int 0])), (a8_5, .inl (cI, 385, .inl (upd (upd (upd (upd (upd (upd (fun _ => 0) 1 1) 3 100) 4 5) 8 1) 10 1) 12 1))), (a17_9, .inl (cI, 385, .inl (fun _ => 0))), (a26_13, .inl (cI, 385, .inl (fun _ => 0))), (a34_17, .inl (cI, 7, .inl (fun _ => 0))), (a41_21, .inl (cI, 4, .inl (fun _ => 0))), (a48_25, .inl (cI, 4, .inl (fun _ => 0))), (a56_29, .inl (cI, 96, .inl (fun _ => 0))), (a64_33, .inl (cI, 60, .inl (fun _ => 0))), (a72_37, .inl (cI, 60, .inl (fun _ => 0))), (a79_41, .inl (cI, 3, .inl (fun _ => 0))), (a87_45, .inl (cI, 60, .inl (fun _ => 0))), (a95_49, .inl (cI, 30, .inl (fun _ => 0)))]) rfl ?_
  refine g_iinc F dX10_init_144 1 rfl 1 (by decide) [(0, _), (1, .int 3)] rfl (by decide) 147 rfl ?_
  refine g_goto F dX10_init_147 124 (by decide) ?_
  refine g_iload_n F dX10_init_124 1 rfl 125 rfl ?_
  refine g_bipush F dX10_init_125 6 (by decide) 127 rfl ?_
  refine g_icmp_ge F dX10_init_127 150 (by decide) 130 rfl (fun hc => absurd hc (by decide)) (fun hc => ?_)
  refine g_aload_n F dX10_init_130 0 rfl 131 rfl ?_
  refine g_get F zc9 dX10_init_131 0 rfl 0 (by decide) (.inl m_930) (.ref a8_5) rfl 134 rfl ?_
  refine g_bipush F dX10_init_134 7 (by decide) 136 rfl ?_
  refine g_iconst F dX10_init_136 2 (by decide) 137 rfl ?_
  refine g_iload_n F dX10_init_137 1 rfl 138 rfl ?_
  refine g_imul F dX10_init_138 139 rfl ?_
  rw [show (2 : Int32) * 3 = 6 by decide]
  refine g_iadd F dX10_init_139 140 rfl ?_
  rw [show (7 : Int32) + 6 = 13 by decide]
  refine g_iconst F dX10_init_140 1 (by decide) 141 rfl ?_
  refine g_iadd F dX10_init_141 142 rfl ?_
  rw [show (13 : Int32) + 1 = 14 by decide]
  refine g_iconst F dX10_init_142 1 (by decide) 143 rfl ?_
  refine g_iast F dX10_init_143 1 rfl rfl (vp_in_nI (n := 14) (by decide) (by decide)) 144 rfl ?_
  refine g_w (ws' := [(h, .inr (9, [.ref a8_5, .ref a17_9, .ref a26_13, .int 0, .ref a34_17, .ref a41_21, .ref a48_25, .ref a56_29, .ref a64_33, .ref a72_37, .ref a79_41, .ref a87_45, .int 0, .int 0, .int 0, .int 0, .int 0, .ref a95_49, .int 0, .int 0])), (a8_5, .inl (cI, 385, .inl (upd (upd (upd (upd (upd (upd (upd (fun _ => 0) 1 1) 3 100) 4 5) 8 1) 10 1) 12 1) 14 1))), (a17_9, .inl (cI, 385, .inl (fun _ => 0))), (a26_13, .inl (cI, 385, .inl (fun _ => 0))), (a34_17, .inl (cI, 7, .inl (fun _ => 0))), (a41_21, .inl (cI, 4, .inl (fun _ => 0))), (a48_25, .inl (cI, 4, .inl (fun _ => 0))), (a56_29, .inl (cI, 96, .inl (fun _ => 0))), (a64_33, .inl (cI, 60, .inl (fun _ => 0))), (a72_37, .inl (cI, 60, .inl (fun _ => 0))), (a79_41, .inl (cI, 3, .inl (fun _ => 0))), (a87_45, .inl (cI, 60, .inl (fun _ => 0))), (a95_49, .inl (cI, 30, .inl (fun _ => 0)))]) rfl ?_
  refine g_iinc F dX10_init_144 1 rfl 1 (by decide) [(0, _), (1, .int 4)] rfl (by decide) 147 rfl ?_
  refine g_goto F dX10_init_147 124 (by decide) ?_
  refine g_iload_n F dX10_init_124 1 rfl 125 rfl ?_
  refine g_bipush F dX10_init_125 6 (by decide) 127 rfl ?_
  refine g_icmp_ge F dX10_init_127 150 (by decide) 130 rfl (fun hc => absurd hc (by decide)) (fun hc => ?_)
  refine g_aload_n F dX10_init_130 0 rfl 131 rfl ?_
  refine g_get F zc9 dX10_init_131 0 rfl 0 (by decide) (.inl m_930) (.ref a8_5) rfl 134 rfl ?_
  refine g_bipush F dX10_init_134 7 (by decide) 136 rfl ?_
  refine g_iconst F dX10_init_136 2 (by decide) 137 rfl ?_
  refine g_iload_n F dX10_init_137 1 rfl 138 rfl ?_
  refine g_imul F dX10_init_138 139 rfl ?_
  rw [show (2 : Int32) * 4 = 8 by decide]
  refine g_iadd F dX10_init_139 140 rfl ?_
  rw [show (7 : Int32) + 8 = 15 by decide]
  refine g_iconst F dX10_init_140 1 (by decide) 141 rfl ?_
  refine g_iadd F dX10_init_141 142 rfl ?_
  rw [show (15 : Int32) + 1 = 16 by decide]
  refine g_iconst F dX10_init_142 1 (by decide) 143 rfl ?_
  refine g_iast F dX10_init_143 1 rfl rfl (vp_in_nI (n := 16) (by decide) (by decide)) 144 rfl ?_
  refine g_w (ws' := [(h, .inr (9, [.ref a8_5, .ref a17_9, .ref a26_13, .int 0, .ref a34_17, .ref a41_21, .ref a48_25, .ref a56_29, .ref a64_33, .ref a72_37, .ref a79_41, .ref a87_45, .int 0, .int 0, .int 0, .int 0, .int 0, .ref a95_49, .int 0, .int 0])), (a8_5, .inl (cI, 385, .inl (upd (upd (upd (upd (upd (upd (upd (upd (fun _ => 0) 1 1) 3 100) 4 5) 8 1) 10 1) 12 1) 14 1) 16 1))), (a17_9, .inl (cI, 385, .inl (fun _ => 0))), (a26_13, .inl (cI, 385, .inl (fun _ => 0))), (a34_17, .inl (cI, 7, .inl (fun _ => 0))), (a41_21, .inl (cI, 4, .inl (fun _ => 0))), (a48_25, .inl (cI, 4, .inl (fun _ => 0))), (a56_29, .inl (cI, 96, .inl (fun _ => 0))), (a64_33, .inl (cI, 60, .inl (fun _ => 0))), (a72_37, .inl (cI, 60, .inl (fun _ => 0))), (a79_41, .inl (cI, 3, .inl (fun _ => 0))), (a87_45, .inl (cI, 60, .inl (fun _ => 0))), (a95_49, .inl (cI, 30, .inl (fun _ => 0)))]) rfl ?_
  refine g_iinc F dX10_init_144 1 rfl 1 (by decide) [(0, _), (1, .int 5)] rfl (by decide) 147 rfl ?_
  refine g_goto F dX10_init_147 124 (by decide) ?_
  refine g_iload_n F dX10_init_124 1 rfl 125 rfl ?_
  refine g_bipush F dX10_init_125 6 (by decide) 127 rfl ?_
  refine g_icmp_ge F dX10_init_127 150 (by decide) 130 rfl (fun hc => absurd hc (by decide)) (fun hc => ?_)
  refine g_aload_n F dX10_init_130 0 rfl 131 rfl ?_
  refine g_get F zc9 dX10_init_131 0 rfl 0 (by decide) (.inl m_930) (.ref a8_5) rfl 134 rfl ?_
  refine g_bipush F dX10_init_134 7 (by decide) 136 rfl ?_
  refine g_iconst F dX10_init_136 2 (by decide) 137 rfl ?_
  refine g_iload_n F dX10_init_137 1 rfl 138 rfl ?_
  refine g_imul F dX10_init_138 139 rfl ?_
  rw [show (2 : Int32) * 5 = 10 by decide]
  refine g_iadd F dX10_init_139 140 rfl ?_
  rw [show (7 : Int32) + 10 = 17 by decide]
  refine g_iconst F dX10_init_140 1 (by decide) 141 rfl ?_
  refine g_iadd F dX10_init_141 142 rfl ?_
  rw [show (17 : Int32) + 1 = 18 by decide]
  refine g_iconst F dX10_init_142 1 (by decide) 143 rfl ?_
  refine g_iast F dX10_init_143 1 rfl rfl (vp_in_nI (n := 18) (by decide) (by decide)) 144 rfl ?_
  refine g_w (ws' := [(h, .inr (9, [.ref a8_5, .ref a17_9, .ref a26_13, .int 0, .ref a34_17, .ref a41_21, .ref a48_25, .ref a56_29, .ref a64_33, .ref a72_37, .ref a79_41, .ref a87_45, .int 0, .int 0, .int 0, .int 0, .int 0, .ref a95_49, .int 0, .int 0])), (a8_5, .inl (cI, 385, .inl (upd (upd (upd (upd (upd (upd (upd (upd (upd (fun _ => 0) 1 1) 3 100) 4 5) 8 1) 10 1) 12 1) 14 1) 16 1) 18 1))), (a17_9, .inl (cI, 385, .inl (fun _ => 0))), (a26_13, .inl (cI, 385, .inl (fun _ => 0))), (a34_17, .inl (cI, 7, .inl (fun _ => 0))), (a41_21, .inl (cI, 4, .inl (fun _ => 0))), (a48_25, .inl (cI, 4, .inl (fun _ => 0))), (a56_29, .inl (cI, 96, .inl (fun _ => 0))), (a64_33, .inl (cI, 60, .inl (fun _ => 0))), (a72_37, .inl (cI, 60, .inl (fun _ => 0))), (a79_41, .inl (cI, 3, .inl (fun _ => 0))), (a87_45, .inl (cI, 60, .inl (fun _ => 0))), (a95_49, .inl (cI, 30, .inl (fun _ => 0)))]) rfl ?_
  refine g_iinc F dX10_init_144 1 rfl 1 (by decide) [(0, _), (1, .int 6)] rfl (by decide) 147 rfl ?_
  refine g_goto F dX10_init_147 124 (by decide) ?_
  refine g_iload_n F dX10_init_124 1 rfl 125 rfl ?_
  refine g_bipush F dX10_init_125 6 (by decide) 127 rfl ?_
  refine g_icmp_ge F dX10_init_127 150 (by decide) 130 rfl (fun hc => ?_) (fun hc => absurd (by decide) hc)
  exact g_ret F hr dX10_init_150 (fun k => [h, a8_5, a17_9, a26_13, a34_17, a41_21, a48_25, a56_29, a64_33, a72_37, a79_41, a87_45, a95_49].getD k 0) [0, 1, 2, 3, 4, 5, 6, 7, 8, 9, 10, 11, 12] rfl rfl rfl [0] rfl
