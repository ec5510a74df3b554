def f_Mod_in (x : Int32) (a : Int32) (b : Int32) : Int32 := if x < a then 0 else (if b < x then 0 else (1))
theorem b_Mod_in (x : Int32) (a : Int32) (b : Int32) : f_Mod_in x a b = 0 ∨ f_Mod_in x a b = 1 := by
  unfold f_Mod_in
  exact (bo_ite (Or.inl rfl) (bo_ite (Or.inl rfl) (Or.inr rfl)))
set_option maxRecDepth 100000 in
set_option maxHeartbeats 4000000 in
theorem c_Mod_in (l : Launch) (D : va_G) (cA : Nat → ClassId) (x : Int32) (a : Int32) (b : Int32)  : ct_R l D cA yn_Mod_in cd_Mod_in 1 [.int x, .int a, .int b] [] (fun v_ => v_ = some (.int (f_Mod_in x a b))) := by
  refine gw_metR (by decide) rfl (Nat.le_of_ble_eq_true rfl) ?_
  intro p_ e_ s_ m_ args_ below_ meth_ c_ S g_r g_k hK
  refine gw_eq (ws' := []) (lv' := [(0, .int x), (1, .int a), (2, .int b)]) (st' := []) (pc' := 0) rfl rfl rfl rfl ?_
  refine gw_iload_n S dc_Mod_in_0 rfl 0 rfl ?_
  refine gw_iload_n S dc_Mod_in_1 rfl 1 rfl ?_
  refine gw_icmp_lt (tgt := 14) S dc_Mod_in_2 (by decide) (fun c_1 => ?_) (fun c_1 => ?_)
  · -- taken
    refine gw_iconst (v := 0) S dc_Mod_in_14 (by decide) ?_
    exact gw_zretR S g_r g_k rfl (by simp only [f_Mod_in, if_pos c_1]) dc_Mod_in_15
  · -- not
    refine gw_iload_n S dc_Mod_in_5 rfl 0 rfl ?_
    refine gw_iload_n S dc_Mod_in_6 rfl 2 rfl ?_
    refine gw_icmp_gt (tgt := 14) S dc_Mod_in_7 (by decide) (fun c_2 => ?_) (fun c_2 => ?_)
    · -- taken
      refine gw_iconst (v := 0) S dc_Mod_in_14 (by decide) ?_
      exact gw_zretR S g_r g_k rfl (by simp only [f_Mod_in, if_neg c_1, if_pos c_2]) dc_Mod_in_15
    · -- not
      refine gw_iconst (v := 1) S dc_Mod_in_10 (by decide) ?_
      refine gw_goto (tgt := 15) S dc_Mod_in_11 (by decide) ?_
      exact gw_zretR S g_r g_k rfl (by simp only [f_Mod_in, if_neg c_1, if_neg c_2]) dc_Mod_in_15
def f_Mod_stir (x : Int32) (b : Int32) : Int32 := ((x ^^^ b) * 16777619) ^^^ ((((x ^^^ b) * 16777619).toUInt32 >>> (Int32.toUInt32 13 &&& Int32.toUInt32 31)).toInt32)
set_option maxRecDepth 100000 in
set_option maxHeartbeats 4000000 in
theorem c_Mod_stir (l : Launch) (D : va_G) (cA : Nat → ClassId) (x : Int32) (b : Int32)  : ct_R l D cA yn_Mod_stir cd_Mod_stir 1 [.int x, .int b] [] (fun v_ => v_ = some (.int (f_Mod_stir x b))) := by
  refine gw_metR (by decide) rfl (Nat.le_of_ble_eq_true rfl) ?_
  intro p_ e_ s_ m_ args_ below_ meth_ c_ S g_r g_k hK
  refine gw_eq (ws' := []) (lv' := [(0, .int x), (1, .int b)]) (st' := []) (pc' := 0) rfl rfl rfl rfl ?_
  refine gw_iload_n S dc_Mod_stir_0 rfl 0 rfl ?_
  refine gw_iload_n S dc_Mod_stir_1 rfl 1 rfl ?_
  refine gw_ixor S dc_Mod_stir_2 ?_
  refine gw_ldc (v := 16777619) S (gw_lk S mw_979) dc_Mod_stir_3 ?_
  refine gw_imul S dc_Mod_stir_5 ?_
  refine gw_istore_n (lv' := [(2, .int ((x ^^^ b) * 16777619)), (0, .int x), (1, .int b)]) S dc_Mod_stir_6 rfl (by decide) rfl ?_
  refine gw_iload_n S dc_Mod_stir_7 rfl 0 rfl ?_
  refine gw_iload_n S dc_Mod_stir_8 rfl 0 rfl ?_
  refine gw_bipush (v := 13) S dc_Mod_stir_9 (by decide) ?_
  refine gw_iushr S dc_Mod_stir_11 rfl ?_
  refine gw_ixor S dc_Mod_stir_12 ?_
  exact gw_iretR S g_r g_k  (by simp only [f_Mod_stir]) dc_Mod_stir_13
def f_Mod_seal (k : Int32) (cd : Int32) (cg : Int32) : Int32 := f_Mod_stir (f_Mod_stir (f_Mod_stir (f_Mod_stir (f_Mod_stir k cd) (((cg.toUInt32 >>> (Int32.toUInt32 24 &&& Int32.toUInt32 31)).toInt32) &&& 255)) (((cg.toUInt32 >>> (Int32.toUInt32 16 &&& Int32.toUInt32 31)).toInt32) &&& 255)) (((cg.toUInt32 >>> (Int32.toUInt32 8 &&& Int32.toUInt32 31)).toInt32) &&& 255)) (((cg.toUInt32 >>> (Int32.toUInt32 0 &&& Int32.toUInt32 31)).toInt32) &&& 255)
set_option maxRecDepth 100000 in
set_option maxHeartbeats 4000000 in
theorem c_Mod_seal (l : Launch) (D : va_G) (cA : Nat → ClassId) (k : Int32) (cd : Int32) (cg : Int32)  : ct_R l D cA yn_Mod_seal cd_Mod_seal 2 [.int k, .int cd, .int cg] [] (fun v_ => v_ = some (.int (f_Mod_seal k cd cg))) := by
  refine gw_metR (by decide) rfl (Nat.le_of_ble_eq_true rfl) ?_
  intro p_ e_ s_ m_ args_ below_ meth_ c_ S g_r g_k hK
  refine gw_eq (ws' := []) (lv' := [(0, .int k), (1, .int cd), (2, .int cg)]) (st' := []) (pc' := 0) rfl rfl rfl rfl ?_
  refine gw_iload_n S dc_Mod_seal_0 rfl 0 rfl ?_
  refine gw_iload_n S dc_Mod_seal_1 rfl 1 rfl ?_
  refine gw_callSR (As := [.int k, .int cd]) (st := []) S hK (c_Mod_stir l D cA k cd ) (cw_Mod_127 S.2.2.2.2 rfl rfl ⟨Nat.le_of_ble_eq_true rfl, Nat.le_of_ble_eq_true rfl⟩) [] rfl (by decide) rfl rfl (Nat.le_of_ble_eq_true rfl) dc_Mod_seal_2 ⟨Nat.le_of_ble_eq_true rfl, Nat.le_of_ble_eq_true rfl⟩ ?_
  rintro _ rfl
  refine gw_eq (ws' := []) (lv' := [(0, .int k), (1, .int cd), (2, .int cg)]) (st' := [.int (f_Mod_stir k cd)]) (pc' := 5) rfl rfl rfl rfl ?_
  refine gw_istore_n (lv' := [(3, .int (f_Mod_stir k cd)), (0, .int k), (1, .int cd), (2, .int cg)]) S dc_Mod_seal_5 rfl (by decide) rfl ?_
  refine gw_bipush (v := 24) S dc_Mod_seal_6 (by decide) ?_
  refine gw_istore (lv' := [(4, .int 24), (3, .int (f_Mod_stir k cd)), (0, .int k), (1, .int cd), (2, .int cg)]) S dc_Mod_seal_8 (by decide) rfl ?_
  refine gw_iload S dc_Mod_seal_10 0 rfl ?_
  refine gw_if_lt (tgt := 34) S dc_Mod_seal_12 (by decide) (fun c_2 => by exact absurd c_2 (by decide)) (fun c_2 => ?_)
  refine gw_iload_n S dc_Mod_seal_15 rfl 1 rfl ?_
  refine gw_iload_n S dc_Mod_seal_16 rfl 4 rfl ?_
  refine gw_iload S dc_Mod_seal_17 0 rfl ?_
  refine gw_iushr S dc_Mod_seal_19 rfl ?_
  refine gw_sipush (v := 255) S dc_Mod_seal_20 (by decide) ?_
  refine gw_iand S dc_Mod_seal_23 ?_
  refine gw_callSR (As := [.int (f_Mod_stir k cd), .int (((cg.toUInt32 >>> (Int32.toUInt32 24 &&& Int32.toUInt32 31)).toInt32) &&& 255)]) (st := []) S hK (c_Mod_stir l D cA (f_Mod_stir k cd) (((cg.toUInt32 >>> (Int32.toUInt32 24 &&& Int32.toUInt32 31)).toInt32) &&& 255) ) (cw_Mod_127 S.2.2.2.2 rfl rfl ⟨Nat.le_of_ble_eq_true rfl, Nat.le_of_ble_eq_true rfl⟩) [] rfl (by decide) rfl rfl (Nat.le_of_ble_eq_true rfl) dc_Mod_seal_24 ⟨Nat.le_of_ble_eq_true rfl, Nat.le_of_ble_eq_true rfl⟩ ?_
  rintro _ rfl
  refine gw_eq (ws' := []) (lv' := [(4, .int 24), (3, .int (f_Mod_stir k cd)), (0, .int k), (1, .int cd), (2, .int cg)]) (st' := [.int (f_Mod_stir (f_Mod_stir k cd) (((cg.toUInt32 >>> (Int32.toUInt32 24 &&& Int32.toUInt32 31)).toInt32) &&& 255))]) (pc' := 27) rfl rfl rfl rfl ?_
  refine gw_istore_n (lv' := [(3, .int (f_Mod_stir (f_Mod_stir k cd) (((cg.toUInt32 >>> (Int32.toUInt32 24 &&& Int32.toUInt32 31)).toInt32) &&& 255))), (4, .int 24), (0, .int k), (1, .int cd), (2, .int cg)]) S dc_Mod_seal_27 rfl (by decide) rfl ?_
  refine gw_iinc (v := 16) (lv' := [(4, .int 16), (3, .int (f_Mod_stir (f_Mod_stir k cd) (((cg.toUInt32 >>> (Int32.toUInt32 24 &&& Int32.toUInt32 31)).toInt32) &&& 255))), (0, .int k), (1, .int cd), (2, .int cg)]) S dc_Mod_seal_28 1 rfl (by decide) (by decide) rfl ?_
  refine gw_goto (tgt := 10) S dc_Mod_seal_31 (by decide) ?_
  refine gw_iload S dc_Mod_seal_10 0 rfl ?_
  refine gw_if_lt (tgt := 34) S dc_Mod_seal_12 (by decide) (fun c_4 => by exact absurd c_4 (by decide)) (fun c_4 => ?_)
  refine gw_iload_n S dc_Mod_seal_15 rfl 1 rfl ?_
  refine gw_iload_n S dc_Mod_seal_16 rfl 4 rfl ?_
  refine gw_iload S dc_Mod_seal_17 0 rfl ?_
  refine gw_iushr S dc_Mod_seal_19 rfl ?_
  refine gw_sipush (v := 255) S dc_Mod_seal_20 (by decide) ?_
  refine gw_iand S dc_Mod_seal_23 ?_
  refine gw_callSR (As := [.int (f_Mod_stir (f_Mod_stir k cd) (((cg.toUInt32 >>> (Int32.toUInt32 24 &&& Int32.toUInt32 31)).toInt32) &&& 255)), .int (((cg.toUInt32 >>> (Int32.toUInt32 16 &&& Int32.toUInt32 31)).toInt32) &&& 255)]) (st := []) S hK (c_Mod_stir l D cA (f_Mod_stir (f_Mod_stir k cd) (((cg.toUInt32 >>> (Int32.toUInt32 24 &&& Int32.toUInt32 31)).toInt32) &&& 255)) (((cg.toUInt32 >>> (Int32.toUInt32 16 &&& Int32.toUInt32 31)).toInt32) &&& 255) ) (cw_Mod_127 S.2.2.2.2 rfl rfl ⟨Nat.le_of_ble_eq_true rfl, Nat.le_of_ble_eq_true rfl⟩) [] rfl (by decide) rfl rfl (Nat.le_of_ble_eq_true rfl) dc_Mod_seal_24 ⟨Nat.le_of_ble_eq_true rfl, Nat.le_of_ble_eq_true rfl⟩ ?_
  rintro _ rfl
  refine gw_eq (ws' := []) (lv' := [(4, .int 16), (3, .int (f_Mod_stir (f_Mod_stir k cd) (((cg.toUInt32 >>> (Int32.toUInt32 24 &&& Int32.toUInt32 31)).toInt32) &&& 255))), (0, .int k), (1, .int cd), (2, .int cg)]) (st' := [.int (f_Mod_stir (f_Mod_stir (f_Mod_stir k cd) (((cg.toUInt32 >>> (Int32.toUInt32 24 &&& Int32.toUInt32 31)).toInt32) &&& 255)) (((cg.toUInt32 >>> (Int32.toUInt32 16 &&& Int32.toUInt32 31)).toInt32) &&& 255))]) (pc' := 27) rfl rfl rfl rfl ?_
  refine gw_istore_n (lv' := [(3, .int (f_Mod_stir (f_Mod_stir (f_Mod_stir k cd) (((cg.toUInt32 >>> (Int32.toUInt32 24 &&& Int32.toUInt32 31)).toInt32) &&& 255)) (((cg.toUInt32 >>> (Int32.toUInt32 16 &&& Int32.toUInt32 31)).toInt32) &&& 255))), (4, .int 16), (0, .int k), (1, .int cd), (2, .int cg)]) S dc_Mod_seal_27 rfl (by decide) rfl ?_
  refine gw_iinc (v := 8) (lv' := [(4, .int 8), (3, .int (f_Mod_stir (f_Mod_stir (f_Mod_stir k cd) (((cg.toUInt32 >>> (Int32.toUInt32 24 &&& Int32.toUInt32 31)).toInt32) &&& 255)) (((cg.toUInt32 >>> (Int32.toUInt32 16 &&& Int32.toUInt32 31)).toInt32) &&& 255))), (0, .int k), (1, .int cd), (2, .int cg)]) S dc_Mod_seal_28 1 rfl (by decide) (by decide) rfl ?_
  refine gw_goto (tgt := 10) S dc_Mod_seal_31 (by decide) ?_
  refine gw_iload S dc_Mod_seal_10 0 rfl ?_
  refine gw_if_lt (tgt := 34) S dc_Mod_seal_12 (by decide) (fun c_6 => by exact absurd c_6 (by decide)) (fun c_6 => ?_)
  refine gw_iload_n S dc_Mod_seal_15 rfl 1 rfl ?_
  refine gw_iload_n S dc_Mod_seal_16 rfl 4 rfl ?_
  refine gw_iload S dc_Mod_seal_17 0 rfl ?_
  refine gw_iushr S dc_Mod_seal_19 rfl ?_
  refine gw_sipush (v := 255) S dc_Mod_seal_20 (by decide) ?_
  refine gw_iand S dc_Mod_seal_23 ?_
  refine gw_callSR (As := [.int (f_Mod_stir (f_Mod_stir (f_Mod_stir k cd) (((cg.toUInt32 >>> (Int32.toUInt32 24 &&& Int32.toUInt32 31)).toInt32) &&& 255)) (((cg.toUInt32 >>> (Int32.toUInt32 16 &&& Int32.toUInt32 31)).toInt32) &&& 255)), .int (((cg.toUInt32 >>> (Int32.toUInt32 8 &&& Int32.toUInt32 31)).toInt32) &&& 255)]) (st := []) S hK (c_Mod_stir l D cA (f_Mod_stir (f_Mod_stir (f_Mod_stir k cd) (((cg.toUInt32 >>> (Int32.toUInt32 24 &&& Int32.toUInt32 31)).toInt32) &&& 255)) (((cg.toUInt32 >>> (Int32.toUInt32 16 &&& Int32.toUInt32 31)).toInt32) &&& 255)) (((cg.toUInt32 >>> (Int32.toUInt32 8 &&& Int32.toUInt32 31)).toInt32) &&& 255) ) (cw_Mod_127 S.2.2.2.2 rfl rfl ⟨Nat.le_of_ble_eq_true rfl, Nat.le_of_ble_eq_true rfl⟩) [] rfl (by decide) rfl rfl (Nat.le_of_ble_eq_true rfl) dc_Mod_seal_24 ⟨Nat.le_of_ble_eq_true rfl, Nat.le_of_ble_eq_true rfl⟩ ?_
  rintro _ rfl
  refine gw_eq (ws' := []) (lv' := [(4, .int 8), (3, .int (f_Mod_stir (f_Mod_stir (f_Mod_stir k cd) (((cg.toUInt32 >>> (Int32.toUInt32 24 &&& Int32.toUInt32 31)).toInt32) &&& 255)) (((cg.toUInt32 >>> (Int32.toUInt32 16 &&& Int32.toUInt32 31)).toInt32) &&& 255))), (0, .int k), (1, .int cd), (2, .int cg)]) (st' := [.int (f_Mod_stir (f_Mod_stir (f_Mod_stir (f_Mod_stir k cd) (((cg.toUInt32 >>> (Int32.toUInt32 24 &&& Int32.toUInt32 31)).toInt32) &&& 255)) (((cg.toUInt32 >>> (Int32.toUInt32 16 &&& Int32.toUInt32 31)).toInt32) &&& 255)) (((cg.toUInt32 >>> (Int32.toUInt32 8 &&& Int32.toUInt32 31)).toInt32) &&& 255))]) (pc' := 27) rfl rfl rfl rfl ?_
  refine gw_istore_n (lv' := [(3, .int (f_Mod_stir (f_Mod_stir (f_Mod_stir (f_Mod_stir k cd) (((cg.toUInt32 >>> (Int32.toUInt32 24 &&& Int32.toUInt32 31)).toInt32) &&& 255)) (((cg.toUInt32 >>> (Int32.toUInt32 16 &&& Int32.toUInt32 31)).toInt32) &&& 255)) (((cg.toUInt32 >>> (Int32.toUInt32 8 &&& Int32.toUInt32 31)).toInt32) &&& 255))), (4, .int 8), (0, .int k), (1, .int cd), (2, .int cg)]) S dc_Mod_seal_27 rfl (by decide) rfl ?_
  refine gw_iinc (v := 0) (lv' := [(4, .int 0), (3, .int (f_Mod_stir (f_Mod_stir (f_Mod_stir (f_Mod_stir k cd) (((cg.toUInt32 >>> (Int32.toUInt32 24 &&& Int32.toUInt32 31)).toInt32) &&& 255)) (((cg.toUInt32 >>> (Int32.toUInt32 16 &&& Int32.toUInt32 31)).toInt32) &&& 255)) (((cg.toUInt32 >>> (Int32.toUInt32 8 &&& Int32.toUInt32 31)).toInt32) &&& 255))), (0, .int k), (1, .int cd), (2, .int cg)]) S dc_Mod_seal_28 1 rfl (by decide) (by decide) rfl ?_
  refine gw_goto (tgt := 10) S dc_Mod_seal_31 (by decide) ?_
  refine gw_iload S dc_Mod_seal_10 0 rfl ?_
  refine gw_if_lt (tgt := 34) S dc_Mod_seal_12 (by decide) (fun c_8 => by exact absurd c_8 (by decide)) (fun c_8 => ?_)
  refine gw_iload_n S dc_Mod_seal_15 rfl 1 rfl ?_
  refine gw_iload_n S dc_Mod_seal_16 rfl 4 rfl ?_
  refine gw_iload S dc_Mod_seal_17 0 rfl ?_
  refine gw_iushr S dc_Mod_seal_19 rfl ?_
  refine gw_sipush (v := 255) S dc_Mod_seal_20 (by decide) ?_
  refine gw_iand S dc_Mod_seal_23 ?_
  refine gw_callSR (As := [.int (f_Mod_stir (f_Mod_stir (f_Mod_stir (f_Mod_stir k cd) (((cg.toUInt32 >>> (Int32.toUInt32 24 &&& Int32.toUInt32 31)).toInt32) &&& 255)) (((cg.toUInt32 >>> (Int32.toUInt32 16 &&& Int32.toUInt32 31)).toInt32) &&& 255)) (((cg.toUInt32 >>> (Int32.toUInt32 8 &&& Int32.toUInt32 31)).toInt32) &&& 255)), .int (((cg.toUInt32 >>> (Int32.toUInt32 0 &&& Int32.toUInt32 31)).toInt32) &&& 255)]) (st := []) S hK (c_Mod_stir l D cA (f_Mod_stir (f_Mod_stir (f_Mod_stir (f_Mod_stir k cd) (((cg.toUInt32 >>> (Int32.toUInt32 24 &&& Int32.toUInt32 31)).toInt32) &&& 255)) (((cg.toUInt32 >>> (Int32.toUInt32 16 &&& Int32.toUInt32 31)).toInt32) &&& 255)) (((cg.toUInt32 >>> (Int32.toUInt32 8 &&& Int32.toUInt32 31)).toInt32) &&& 255)) (((cg.toUInt32 >>> (Int32.toUInt32 0 &&& Int32.toUInt32 31)).toInt32) &&& 255) ) (cw_Mod_127 S.2.2.2.2 rfl rfl ⟨Nat.le_of_ble_eq_true rfl, Nat.le_of_ble_eq_true rfl⟩) [] rfl (by decide) rfl rfl (Nat.le_of_ble_eq_true rfl) dc_Mod_seal_24 ⟨Nat.le_of_ble_eq_true rfl, Nat.le_of_ble_eq_true rfl⟩ ?_
  rintro _ rfl
  refine gw_eq (ws' := []) (lv' := [(4, .int 0), (3, .int (f_Mod_stir (f_Mod_stir (f_Mod_stir (f_Mod_stir k cd) (((cg.toUInt32 >>> (Int32.toUInt32 24 &&& Int32.toUInt32 31)).toInt32) &&& 255)) (((cg.toUInt32 >>> (Int32.toUInt32 16 &&& Int32.toUInt32 31)).toInt32) &&& 255)) (((cg.toUInt32 >>> (Int32.toUInt32 8 &&& Int32.toUInt32 31)).toInt32) &&& 255))), (0, .int k), (1, .int cd), (2, .int cg)]) (st' := [.int (f_Mod_stir (f_Mod_stir (f_Mod_stir (f_Mod_stir (f_Mod_stir k cd) (((cg.toUInt32 >>> (Int32.toUInt32 24 &&& Int32.toUInt32 31)).toInt32) &&& 255)) (((cg.toUInt32 >>> (Int32.toUInt32 16 &&& Int32.toUInt32 31)).toInt32) &&& 255)) (((cg.toUInt32 >>> (Int32.toUInt32 8 &&& Int32.toUInt32 31)).toInt32) &&& 255)) (((cg.toUInt32 >>> (Int32.toUInt32 0 &&& Int32.toUInt32 31)).toInt32) &&& 255))]) (pc' := 27) rfl rfl rfl rfl ?_
  refine gw_istore_n (lv' := [(3, .int (f_Mod_stir (f_Mod_stir (f_Mod_stir (f_Mod_stir (f_Mod_stir k cd) (((cg.toUInt32 >>> (Int32.toUInt32 24 &&& Int32.toUInt32 31)).toInt32) &&& 255)) (((cg.toUInt32 >>> (Int32.toUInt32 16 &&& Int32.toUInt32 31)).toInt32) &&& 255)) (((cg.toUInt32 >>> (Int32.toUInt32 8 &&& Int32.toUInt32 31)).toInt32) &&& 255)) (((cg.toUInt32 >>> (Int32.toUInt32 0 &&& Int32.toUInt32 31)).toInt32) &&& 255))), (4, .int 0), (0, .int k), (1, .int cd), (2, .int cg)]) S dc_Mod_seal_27 rfl (by decide) rfl ?_
  refine gw_iinc (v := -8) (lv' := [(4, .int (-8)), (3, .int (f_Mod_stir (f_Mod_stir (f_Mod_stir (f_Mod_stir (f_Mod_stir k cd) (((cg.toUInt32 >>> (Int32.toUInt32 24 &&& Int32.toUInt32 31)).toInt32) &&& 255)) (((cg.toUInt32 >>> (Int32.toUInt32 16 &&& Int32.toUInt32 31)).toInt32) &&& 255)) (((cg.toUInt32 >>> (Int32.toUInt32 8 &&& Int32.toUInt32 31)).toInt32) &&& 255)) (((cg.toUInt32 >>> (Int32.toUInt32 0 &&& Int32.toUInt32 31)).toInt32) &&& 255))), (0, .int k), (1, .int cd), (2, .int cg)]) S dc_Mod_seal_28 1 rfl (by decide) (by decide) rfl ?_
  refine gw_goto (tgt := 10) S dc_Mod_seal_31 (by decide) ?_
  refine gw_iload S dc_Mod_seal_10 0 rfl ?_
  refine gw_if_lt (tgt := 34) S dc_Mod_seal_12 (by decide) (fun c_10 => ?_) (fun c_10 => by exact absurd c_10 (by decide))
  refine gw_iload_n S dc_Mod_seal_34 rfl 1 rfl ?_
  exact gw_iretR S g_r g_k  (by simp only [f_Mod_seal]) dc_Mod_seal_35
theorem in_iff (x a b : Int32) : f_Mod_in x a b = 0 ↔ ¬ (a.toInt ≤ x.toInt ∧ x.toInt ≤ b.toInt) := iw_iff x a b
theorem in_in {a b : Int32} {N : Nat} (hb : b.toInt < N) (h : ¬ f_Mod_in a 0 b = 0) : vp_in a N := iw_in hb h
theorem md_feed {n : Int32} (h : rw_ok n 60) (c : ¬ n = 60) : vp_in (240 + n) 300 := by
  obtain ⟨k, hk, hN, rfl⟩ := nw_of h
  have h1 : k ≠ 60 := fun q => c (by rw [q]; rfl)
  rw [show (240 : Int32) + nI k = nI (240 + k) from nI_add 240 k]
  exact vp_in_nI (by omega) (by decide)
theorem md_q {i n : Int32} {N : Nat} (h : rw_ok n N) (h0 : ¬ i < 0) (h1 : ¬ n ≤ i) : vp_in i N := rw_in h h0 h1
def f_Mod_feed (fz : Nat → Int32) (x : Int32) : Int32 := if (f_Mod_in x 0 255) = 0 then (-1) else (if (fz 4) = 60 then (-2) else ((upd fz 4 ((fz 4) + 1)) 4))
def f_Mod_feed_1 (fm : Nat → Int32) (fz : Nat → Int32) (x : Int32) : Nat → Int32 := if (f_Mod_in x 0 255) = 0 then fm else (if (fz 4) = 60 then fm else (upd fm (Int32.toNatClampNeg (240 + (fz 4))) x))
def f_Mod_feed_2 (fz : Nat → Int32) (x : Int32) : Nat → Int32 := if (f_Mod_in x 0 255) = 0 then fz else (if (fz 4) = 60 then fz else (upd fz 4 ((fz 4) + 1)))
set_option maxRecDepth 100000 in
set_option maxHeartbeats 4000000 in
theorem c_Mod_feed (l : Launch) (D : va_G) (cA : Nat → ClassId) (sz : Nat) (mo : Nat) (xm : Nat) (xs : Nat) (xt : Nat) (xk : Nat) (xp : Nat) (xr : Nat) (xc : Nat) (xu : Nat) (xe : Nat) (xb : Nat) (xa : Nat) (xl : Nat) (xg : Nat) (x1 : Nat) (x2 : Nat) (x3 : Nat) (x4 : Nat) (xq : Nat) (xz : Nat) (xd : Nat) (pl : Int32) (ft : Int32) (tw : Int32) (inn : Int32) (bd : Int32) (py : Int32) (ap : Int32) (qd : Int32) (ds : Int32) (fl : Int32) (u4 : Int32) (fm : Nat → Int32) (fz : Nat → Int32) (x : Int32) (h4 : rw_ok (fz 4) 60) : ct_M l D cA yn_Mod_feed cd_Mod_feed 2 0 0 sz [.ref mo, .int x] [(mo, .inr (9, [.ref xm, .ref xs, .ref xt, .ref xk, .ref xp, .ref xr, .ref xc, .ref xu, .ref xe, .ref xb, .ref xa, .ref xl, .ref xg, .int pl, .int ft, .int tw, .int inn, .int bd, .int py, .ref x1, .ref x2, .ref x3, .ref x4, .int ap, .ref xq, .int qd, .ref xz, .ref xd, .int ds, .int fl, .int u4])), (xm, .inl (cA 0, 300, .inl fm)), (xs, .inl (cA 0, 5, .inl fz))] (fun v_ w_ => v_ = some (.int (f_Mod_feed fz x)) ∧ w_ = [(mo, .inr (9, [.ref xm, .ref xs, .ref xt, .ref xk, .ref xp, .ref xr, .ref xc, .ref xu, .ref xe, .ref xb, .ref xa, .ref xl, .ref xg, .int pl, .int ft, .int tw, .int inn, .int bd, .int py, .ref x1, .ref x2, .ref x3, .ref x4, .int ap, .ref xq, .int qd, .ref xz, .ref xd, .int ds, .int fl, .int u4])), (xm, .inl (cA 0, 300, .inl (f_Mod_feed_1 fm fz x))), (xs, .inl (cA 0, 5, .inl (f_Mod_feed_2 fz x)))]) := by
  refine gw_met (by decide) rfl (Nat.le_of_ble_eq_true rfl) ?_
  intro p_ e_ s_ m_ args_ below_ meth_ c_ A_ S g_r g_k g_n hK hA
  refine gw_eq (ws' := [(mo, .inr (9, [.ref xm, .ref xs, .ref xt, .ref xk, .ref xp, .ref xr, .ref xc, .ref xu, .ref xe, .ref xb, .ref xa, .ref xl, .ref xg, .int pl, .int ft, .int tw, .int inn, .int bd, .int py, .ref x1, .ref x2, .ref x3, .ref x4, .int ap, .ref xq, .int qd, .ref xz, .ref xd, .int ds, .int fl, .int u4])), (xm, .inl (cA 0, 300, .inl fm)), (xs, .inl (cA 0, 5, .inl fz))]) (lv' := [(0, .ref mo), (1, .int x)]) (st' := []) (pc' := 0) rfl rfl rfl rfl ?_
  refine gw_iload_n S dc_Mod_feed_0 rfl 1 rfl ?_
  refine gw_iconst (v := 0) S dc_Mod_feed_1 (by decide) ?_
  refine gw_sipush (v := 255) S dc_Mod_feed_2 (by decide) ?_
  refine gw_callSR (As := [.int x, .int 0, .int 255]) (st := []) S hK (c_Mod_in l D cA x 0 255 ) (cw_Mod_101 S.2.2.2.2 rfl rfl ⟨Nat.le_of_ble_eq_true rfl, Nat.le_of_ble_eq_true rfl⟩) [] rfl (by decide) rfl rfl (Nat.le_of_ble_eq_true rfl) dc_Mod_feed_5 ⟨Nat.le_of_ble_eq_true rfl, Nat.le_of_ble_eq_true rfl⟩ ?_
  rintro _ rfl
  refine gw_eq (ws' := [(mo, .inr (9, [.ref xm, .ref xs, .ref xt, .ref xk, .ref xp, .ref xr, .ref xc, .ref xu, .ref xe, .ref xb, .ref xa, .ref xl, .ref xg, .int pl, .int ft, .int tw, .int inn, .int bd, .int py, .ref x1, .ref x2, .ref x3, .ref x4, .int ap, .ref xq, .int qd, .ref xz, .ref xd, .int ds, .int fl, .int u4])), (xm, .inl (cA 0, 300, .inl fm)), (xs, .inl (cA 0, 5, .inl fz))]) (lv' := [(0, .ref mo), (1, .int x)]) (st' := [.int (f_Mod_in x 0 255)]) (pc' := 8) rfl rfl rfl rfl ?_
  refine gw_if_ne (tgt := 13) S dc_Mod_feed_8 (by decide) (fun c_2 => ?_) (fun c_2 => ?_)
  · -- taken
    refine gw_aload_n S dc_Mod_feed_13 rfl 0 rfl ?_
    refine gw_get S hK.1 ic_Mod rfl 1 (by decide) (gw_lk S mw_781) 0 rfl rfl dc_Mod_feed_14 ?_
    refine gw_iconst (v := 4) S dc_Mod_feed_17 (by decide) ?_
    refine gw_iald S hK.1 2 0 rfl rfl (by unfold vp_in; decide) dc_Mod_feed_18 ?_
    refine gw_eq (ws' := [(mo, .inr (9, [.ref xm, .ref xs, .ref xt, .ref xk, .ref xp, .ref xr, .ref xc, .ref xu, .ref xe, .ref xb, .ref xa, .ref xl, .ref xg, .int pl, .int ft, .int tw, .int inn, .int bd, .int py, .ref x1, .ref x2, .ref x3, .ref x4, .int ap, .ref xq, .int qd, .ref xz, .ref xd, .int ds, .int fl, .int u4])), (xm, .inl (cA 0, 300, .inl fm)), (xs, .inl (cA 0, 5, .inl fz))]) (lv' := [(0, .ref mo), (1, .int x)]) (st' := [.int (fz 4)]) (pc' := 19) rfl rfl rfl rfl ?_
    refine gw_bipush (v := 60) S dc_Mod_feed_19 (by decide) ?_
    refine gw_icmp_ne (tgt := 27) S dc_Mod_feed_21 (by decide) (fun c_3 => ?_) (fun c_3 => ?_)
    · -- taken
      refine gw_aload_n S dc_Mod_feed_27 rfl 0 rfl ?_
      refine gw_get S hK.1 ic_Mod rfl 0 (by decide) (gw_lk S mw_780) 0 rfl rfl dc_Mod_feed_28 ?_
      refine gw_sipush (v := 240) S dc_Mod_feed_31 (by decide) ?_
      refine gw_aload_n S dc_Mod_feed_34 rfl 0 rfl ?_
      refine gw_get S hK.1 ic_Mod rfl 1 (by decide) (gw_lk S mw_781) 0 rfl rfl dc_Mod_feed_35 ?_
      refine gw_iconst (v := 4) S dc_Mod_feed_38 (by decide) ?_
      refine gw_iald S hK.1 2 0 rfl rfl (by unfold vp_in; decide) dc_Mod_feed_39 ?_
      refine gw_eq (ws' := [(mo, .inr (9, [.ref xm, .ref xs, .ref xt, .ref xk, .ref xp, .ref xr, .ref xc, .ref xu, .ref xe, .ref xb, .ref xa, .ref xl, .ref xg, .int pl, .int ft, .int tw, .int inn, .int bd, .int py, .ref x1, .ref x2, .ref x3, .ref x4, .int ap, .ref xq, .int qd, .ref xz, .ref xd, .int ds, .int fl, .int u4])), (xm, .inl (cA 0, 300, .inl fm)), (xs, .inl (cA 0, 5, .inl fz))]) (lv' := [(0, .ref mo), (1, .int x)]) (st' := [.int (fz 4), .int 240, .ref xm]) (pc' := 40) rfl rfl rfl rfl ?_
      refine gw_iadd S dc_Mod_feed_40 ?_
      refine gw_iload_n S dc_Mod_feed_41 rfl 1 rfl ?_
      refine gw_iast (ws' := [(mo, .inr (9, [.ref xm, .ref xs, .ref xt, .ref xk, .ref xp, .ref xr, .ref xc, .ref xu, .ref xe, .ref xb, .ref xa, .ref xl, .ref xg, .int pl, .int ft, .int tw, .int inn, .int bd, .int py, .ref x1, .ref x2, .ref x3, .ref x4, .int ap, .ref xq, .int qd, .ref xz, .ref xd, .int ds, .int fl, .int u4])), (xm, .inl (cA 0, 300, .inl (upd fm (Int32.toNatClampNeg (240 + (fz 4))) x))), (xs, .inl (cA 0, 5, .inl fz))]) S hK.1 1 0 rfl rfl (md_feed h4 c_3) rfl dc_Mod_feed_42 ?_
      refine gw_aload_n S dc_Mod_feed_43 rfl 0 rfl ?_
      refine gw_get S hK.1 ic_Mod rfl 1 (by decide) (gw_lk S mw_781) 0 rfl rfl dc_Mod_feed_44 ?_
      refine gw_iconst (v := 4) S dc_Mod_feed_47 (by decide) ?_
      refine gw_dup2_11 S dc_Mod_feed_48 rfl rfl ?_
      refine gw_iald S hK.1 2 0 rfl rfl (by unfold vp_in; decide) dc_Mod_feed_49 ?_
      refine gw_eq (ws' := [(mo, .inr (9, [.ref xm, .ref xs, .ref xt, .ref xk, .ref xp, .ref xr, .ref xc, .ref xu, .ref xe, .ref xb, .ref xa, .ref xl, .ref xg, .int pl, .int ft, .int tw, .int inn, .int bd, .int py, .ref x1, .ref x2, .ref x3, .ref x4, .int ap, .ref xq, .int qd, .ref xz, .ref xd, .int ds, .int fl, .int u4])), (xm, .inl (cA 0, 300, .inl (upd fm (Int32.toNatClampNeg (240 + (fz 4))) x))), (xs, .inl (cA 0, 5, .inl fz))]) (lv' := [(0, .ref mo), (1, .int x)]) (st' := [.int (fz 4), .int 4, .ref xs]) (pc' := 50) rfl rfl rfl rfl ?_
      refine gw_iconst (v := 1) S dc_Mod_feed_50 (by decide) ?_
      refine gw_iadd S dc_Mod_feed_51 ?_
      refine gw_iast (ws' := [(mo, .inr (9, [.ref xm, .ref xs, .ref xt, .ref xk, .ref xp, .ref xr, .ref xc, .ref xu, .ref xe, .ref xb, .ref xa, .ref xl, .ref xg, .int pl, .int ft, .int tw, .int inn, .int bd, .int py, .ref x1, .ref x2, .ref x3, .ref x4, .int ap, .ref xq, .int qd, .ref xz, .ref xd, .int ds, .int fl, .int u4])), (xm, .inl (cA 0, 300, .inl (upd fm (Int32.toNatClampNeg (240 + (fz 4))) x))), (xs, .inl (cA 0, 5, .inl (upd fz 4 ((fz 4) + 1))))]) S hK.1 2 0 rfl rfl (by unfold vp_in; decide) rfl dc_Mod_feed_52 ?_
      refine gw_aload_n S dc_Mod_feed_53 rfl 0 rfl ?_
      refine gw_get S hK.1 ic_Mod rfl 1 (by decide) (gw_lk S mw_781) 0 rfl rfl dc_Mod_feed_54 ?_
      refine gw_iconst (v := 4) S dc_Mod_feed_57 (by decide) ?_
      refine gw_iald S hK.1 2 0 rfl rfl (by unfold vp_in; decide) dc_Mod_feed_58 ?_
      refine gw_eq (ws' := [(mo, .inr (9, [.ref xm, .ref xs, .ref xt, .ref xk, .ref xp, .ref xr, .ref xc, .ref xu, .ref xe, .ref xb, .ref xa, .ref xl, .ref xg, .int pl, .int ft, .int tw, .int inn, .int bd, .int py, .ref x1, .ref x2, .ref x3, .ref x4, .int ap, .ref xq, .int qd, .ref xz, .ref xd, .int ds, .int fl, .int u4])), (xm, .inl (cA 0, 300, .inl (upd fm (Int32.toNatClampNeg (240 + (fz 4))) x))), (xs, .inl (cA 0, 5, .inl (upd fz 4 ((fz 4) + 1))))]) (lv' := [(0, .ref mo), (1, .int x)]) (st' := [.int ((upd fz 4 ((fz 4) + 1)) 4)]) (pc' := 59) rfl rfl rfl rfl ?_
      exact gw_iret (w := [(mo, .inr (9, [.ref xm, .ref xs, .ref xt, .ref xk, .ref xp, .ref xr, .ref xc, .ref xu, .ref xe, .ref xb, .ref xa, .ref xl, .ref xg, .int pl, .int ft, .int tw, .int inn, .int bd, .int py, .ref x1, .ref x2, .ref x3, .ref x4, .int ap, .ref xq, .int qd, .ref xz, .ref xd, .int ds, .int fl, .int u4])), (xm, .inl (cA 0, 300, .inl (upd fm (Int32.toNatClampNeg (240 + (fz 4))) x))), (xs, .inl (cA 0, 5, .inl (upd fz 4 ((fz 4) + 1))))]) S g_r g_k  [0, 1, 2] rfl (by decide) ⟨(by simp only [f_Mod_feed, f_Mod_feed_1, f_Mod_feed_2, if_neg c_2, if_neg c_3]), (by simp only [f_Mod_feed, f_Mod_feed_1, f_Mod_feed_2, if_neg c_2, if_neg c_3])⟩ dc_Mod_feed_59
    · -- not
      refine gw_bipush (v := -2) S dc_Mod_feed_24 (by decide) ?_
      exact gw_iret (w := [(mo, .inr (9, [.ref xm, .ref xs, .ref xt, .ref xk, .ref xp, .ref xr, .ref xc, .ref xu, .ref xe, .ref xb, .ref xa, .ref xl, .ref xg, .int pl, .int ft, .int tw, .int inn, .int bd, .int py, .ref x1, .ref x2, .ref x3, .ref x4, .int ap, .ref xq, .int qd, .ref xz, .ref xd, .int ds, .int fl, .int u4])), (xm, .inl (cA 0, 300, .inl fm)), (xs, .inl (cA 0, 5, .inl fz))]) S g_r g_k  [0, 1, 2] rfl (by decide) ⟨(by simp only [f_Mod_feed, f_Mod_feed_1, f_Mod_feed_2, if_neg c_2, if_pos c_3]), (by simp only [f_Mod_feed, f_Mod_feed_1, f_Mod_feed_2, if_neg c_2, if_pos c_3])⟩ dc_Mod_feed_26
  · -- not
    refine gw_iconst (v := -1) S dc_Mod_feed_11 (by decide) ?_
    exact gw_iret (w := [(mo, .inr (9, [.ref xm, .ref xs, .ref xt, .ref xk, .ref xp, .ref xr, .ref xc, .ref xu, .ref xe, .ref xb, .ref xa, .ref xl, .ref xg, .int pl, .int ft, .int tw, .int inn, .int bd, .int py, .ref x1, .ref x2, .ref x3, .ref x4, .int ap, .ref xq, .int qd, .ref xz, .ref xd, .int ds, .int fl, .int u4])), (xm, .inl (cA 0, 300, .inl fm)), (xs, .inl (cA 0, 5, .inl fz))]) S g_r g_k  [0, 1, 2] rfl (by decide) ⟨(by simp only [f_Mod_feed, f_Mod_feed_1, f_Mod_feed_2, if_pos c_2]), (by simp only [f_Mod_feed, f_Mod_feed_1, f_Mod_feed_2, if_pos c_2])⟩ dc_Mod_feed_12
set_option maxRecDepth 100000 in
set_option maxHeartbeats 4000000 in
theorem c_Mod_wipe (l : Launch) (D : va_G) (cA : Nat → ClassId) (sz : Nat) (mo : Nat) (xm : Nat) (xs : Nat) (xt : Nat) (xk : Nat) (xp : Nat) (xr : Nat) (xc : Nat) (xu : Nat) (xe : Nat) (xb : Nat) (xa : Nat) (xl : Nat) (xg : Nat) (x1 : Nat) (x2 : Nat) (x3 : Nat) (x4 : Nat) (xq : Nat) (xz : Nat) (xd : Nat) (pl : Int32) (ft : Int32) (tw : Int32) (inn : Int32) (bd : Int32) (py : Int32) (ap : Int32) (qd : Int32) (ds : Int32) (fl : Int32) (u4 : Int32) (fz : Nat → Int32)  : ct_M l D cA yn_Mod_wipe cd_Mod_wipe 1 0 0 sz [.ref mo] [(mo, .inr (9, [.ref xm, .ref xs, .ref xt, .ref xk, .ref xp, .ref xr, .ref xc, .ref xu, .ref xe, .ref xb, .ref xa, .ref xl, .ref xg, .int pl, .int ft, .int tw, .int inn, .int bd, .int py, .ref x1, .ref x2, .ref x3, .ref x4, .int ap, .ref xq, .int qd, .ref xz, .ref xd, .int ds, .int fl, .int u4])), (xs, .inl (cA 0, 5, .inl fz))] (fun v_ w_ => v_ = some (.int (fz 4)) ∧ w_ = [(mo, .inr (9, [.ref xm, .ref xs, .ref xt, .ref xk, .ref xp, .ref xr, .ref xc, .ref xu, .ref xe, .ref xb, .ref xa, .ref xl, .ref xg, .int pl, .int ft, .int tw, .int inn, .int bd, .int py, .ref x1, .ref x2, .ref x3, .ref x4, .int ap, .ref xq, .int qd, .ref xz, .ref xd, .int ds, .int fl, .int u4])), (xs, .inl (cA 0, 5, .inl (upd fz 4 0)))]) := by
  refine gw_met (by decide) rfl (Nat.le_of_ble_eq_true rfl) ?_
  intro p_ e_ s_ m_ args_ below_ meth_ c_ A_ S g_r g_k g_n hK hA
  refine gw_eq (ws' := [(mo, .inr (9, [.ref xm, .ref xs, .ref xt, .ref xk, .ref xp, .ref xr, .ref xc, .ref xu, .ref xe, .ref xb, .ref xa, .ref xl, .ref xg, .int pl, .int ft, .int tw, .int inn, .int bd, .int py, .ref x1, .ref x2, .ref x3, .ref x4, .int ap, .ref xq, .int qd, .ref xz, .ref xd, .int ds, .int fl, .int u4])), (xs, .inl (cA 0, 5, .inl fz))]) (lv' := [(0, .ref mo)]) (st' := []) (pc' := 0) rfl rfl rfl rfl ?_
  refine gw_aload_n S dc_Mod_wipe_0 rfl 0 rfl ?_
  refine gw_get S hK.1 ic_Mod rfl 1 (by decide) (gw_lk S mw_781) 0 rfl rfl dc_Mod_wipe_1 ?_
  refine gw_iconst (v := 4) S dc_Mod_wipe_4 (by decide) ?_
  refine gw_iald S hK.1 1 0 rfl rfl (by unfold vp_in; decide) dc_Mod_wipe_5 ?_
  refine gw_eq (ws' := [(mo, .inr (9, [.ref xm, .ref xs, .ref xt, .ref xk, .ref xp, .ref xr, .ref xc, .ref xu, .ref xe, .ref xb, .ref xa, .ref xl, .ref xg, .int pl, .int ft, .int tw, .int inn, .int bd, .int py, .ref x1, .ref x2, .ref x3, .ref x4, .int ap, .ref xq, .int qd, .ref xz, .ref xd, .int ds, .int fl, .int u4])), (xs, .inl (cA 0, 5, .inl fz))]) (lv' := [(0, .ref mo)]) (st' := [.int (fz 4)]) (pc' := 6) rfl rfl rfl rfl ?_
  refine gw_istore_n (lv' := [(1, .int (fz 4)), (0, .ref mo)]) S dc_Mod_wipe_6 rfl (by decide) rfl ?_
  refine gw_aload_n S dc_Mod_wipe_7 rfl 1 rfl ?_
  refine gw_get S hK.1 ic_Mod rfl 1 (by decide) (gw_lk S mw_781) 0 rfl rfl dc_Mod_wipe_8 ?_
  refine gw_iconst (v := 4) S dc_Mod_wipe_11 (by decide) ?_
  refine gw_iconst (v := 0) S dc_Mod_wipe_12 (by decide) ?_
  refine gw_iast (ws' := [(mo, .inr (9, [.ref xm, .ref xs, .ref xt, .ref xk, .ref xp, .ref xr, .ref xc, .ref xu, .ref xe, .ref xb, .ref xa, .ref xl, .ref xg, .int pl, .int ft, .int tw, .int inn, .int bd, .int py, .ref x1, .ref x2, .ref x3, .ref x4, .int ap, .ref xq, .int qd, .ref xz, .ref xd, .int ds, .int fl, .int u4])), (xs, .inl (cA 0, 5, .inl (upd fz 4 0)))]) S hK.1 1 0 rfl rfl (by unfold vp_in; decide) rfl dc_Mod_wipe_13 ?_
  refine gw_iload_n S dc_Mod_wipe_14 rfl 0 rfl ?_
  exact gw_iret (w := [(mo, .inr (9, [.ref xm, .ref xs, .ref xt, .ref xk, .ref xp, .ref xr, .ref xc, .ref xu, .ref xe, .ref xb, .ref xa, .ref xl, .ref xg, .int pl, .int ft, .int tw, .int inn, .int bd, .int py, .ref x1, .ref x2, .ref x3, .ref x4, .int ap, .ref xq, .int qd, .ref xz, .ref xd, .int ds, .int fl, .int u4])), (xs, .inl (cA 0, 5, .inl (upd fz 4 0)))]) S g_r g_k  [0, 1] rfl (by decide) ⟨rfl, rfl⟩ dc_Mod_wipe_15
set_option maxRecDepth 100000 in
set_option maxHeartbeats 4000000 in
theorem c_Mod_place (l : Launch) (D : va_G) (cA : Nat → ClassId) (mo : Nat) (xm : Nat) (xs : Nat) (xt : Nat) (xk : Nat) (xp : Nat) (xr : Nat) (xc : Nat) (xu : Nat) (xe : Nat) (xb : Nat) (xa : Nat) (xl : Nat) (xg : Nat) (x1 : Nat) (x2 : Nat) (x3 : Nat) (x4 : Nat) (xq : Nat) (xz : Nat) (xd : Nat) (pl : Int32) (ft : Int32) (tw : Int32) (inn : Int32) (bd : Int32) (py : Int32) (ap : Int32) (qd : Int32) (ds : Int32) (fl : Int32) (u4 : Int32)  : ct_R l D cA yn_Mod_place cd_Mod_place 1 [.ref mo] [(mo, .inr (9, [.ref xm, .ref xs, .ref xt, .ref xk, .ref xp, .ref xr, .ref xc, .ref xu, .ref xe, .ref xb, .ref xa, .ref xl, .ref xg, .int pl, .int ft, .int tw, .int inn, .int bd, .int py, .ref x1, .ref x2, .ref x3, .ref x4, .int ap, .ref xq, .int qd, .ref xz, .ref xd, .int ds, .int fl, .int u4]))] (fun v_ => v_ = some (.int pl)) := by
  refine gw_metR (by decide) rfl (Nat.le_of_ble_eq_true rfl) ?_
  intro p_ e_ s_ m_ args_ below_ meth_ c_ S g_r g_k hK
  refine gw_eq (ws' := [(mo, .inr (9, [.ref xm, .ref xs, .ref xt, .ref xk, .ref xp, .ref xr, .ref xc, .ref xu, .ref xe, .ref xb, .ref xa, .ref xl, .ref xg, .int pl, .int ft, .int tw, .int inn, .int bd, .int py, .ref x1, .ref x2, .ref x3, .ref x4, .int ap, .ref xq, .int qd, .ref xz, .ref xd, .int ds, .int fl, .int u4]))]) (lv' := [(0, .ref mo)]) (st' := []) (pc' := 0) rfl rfl rfl rfl ?_
  refine gw_aload_n S dc_Mod_place_0 rfl 0 rfl ?_
  refine gw_get S hK.1 ic_Mod rfl 13 (by decide) (gw_lk S mw_793) 0 rfl rfl dc_Mod_place_1 ?_
  exact gw_iretR S g_r g_k  rfl dc_Mod_place_4
def f_Mod_account (x : Int32) (y : Int32) : Int32 := if (f_Mod_in x 0 7) = 0 then (-1) else (if (f_Mod_in y 0 9999999) = 0 then (-1) else (0))
def f_Mod_account_1 (bal : Nat → Int32) (x : Int32) (y : Int32) : Nat → Int32 := if (f_Mod_in x 0 7) = 0 then bal else (if (f_Mod_in y 0 9999999) = 0 then bal else (upd bal (Int32.toNatClampNeg x) y))
def f_Mod_account_2 (ak : Nat → Int32) (x : Int32) (y : Int32) (w : Int32) : Nat → Int32 := if (f_Mod_in x 0 7) = 0 then ak else (if (f_Mod_in y 0 9999999) = 0 then ak else (upd ak (Int32.toNatClampNeg x) w))
def f_Mod_account_3 (lt : Nat → Int32) (x : Int32) (y : Int32) : Nat → Int32 := if (f_Mod_in x 0 7) = 0 then lt else (if (f_Mod_in y 0 9999999) = 0 then lt else (upd lt (Int32.toNatClampNeg x) 0))
set_option maxRecDepth 100000 in
set_option maxHeartbeats 4000000 in
theorem c_Mod_account (l : Launch) (D : va_G) (cA : Nat → ClassId) (sz : Nat) (mo : Nat) (xm : Nat) (xs : Nat) (xt : Nat) (xk : Nat) (xp : Nat) (xr : Nat) (xc : Nat) (xu : Nat) (xe : Nat) (xb : Nat) (xa : Nat) (xl : Nat) (xg : Nat) (x1 : Nat) (x2 : Nat) (x3 : Nat) (x4 : Nat) (xq : Nat) (xz : Nat) (xd : Nat) (pl : Int32) (ft : Int32) (tw : Int32) (inn : Int32) (bd : Int32) (py : Int32) (ap : Int32) (qd : Int32) (ds : Int32) (fl : Int32) (u4 : Int32) (bal : Nat → Int32) (ak : Nat → Int32) (lt : Nat → Int32) (x : Int32) (y : Int32) (w : Int32)  : ct_M l D cA yn_Mod_account cd_Mod_account 2 0 0 sz [.ref mo, .int x, .int y, .int w] [(mo, .inr (9, [.ref xm, .ref xs, .ref xt, .ref xk, .ref xp, .ref xr, .ref xc, .ref xu, .ref xe, .ref xb, .ref xa, .ref xl, .ref xg, .int pl, .int ft, .int tw, .int inn, .int bd, .int py, .ref x1, .ref x2, .ref x3, .ref x4, .int ap, .ref xq, .int qd, .ref xz, .ref xd, .int ds, .int fl, .int u4])), (xb, .inl (cA 0, 8, .inl bal)), (xa, .inl (cA 0, 8, .inl ak)), (xl, .inl (cA 0, 8, .inl lt))] (fun v_ w_ => v_ = some (.int (f_Mod_account x y)) ∧ w_ = [(mo, .inr (9, [.ref xm, .ref xs, .ref xt, .ref xk, .ref xp, .ref xr, .ref xc, .ref xu, .ref xe, .ref xb, .ref xa, .ref xl, .ref xg, .int pl, .int ft, .int tw, .int inn, .int bd, .int py, .ref x1, .ref x2, .ref x3, .ref x4, .int ap, .ref xq, .int qd, .ref xz, .ref xd, .int ds, .int fl, .int u4])), (xb, .inl (cA 0, 8, .inl (f_Mod_account_1 bal x y))), (xa, .inl (cA 0, 8, .inl (f_Mod_account_2 ak x y w))), (xl, .inl (cA 0, 8, .inl (f_Mod_account_3 lt x y)))]) := by
  refine gw_met (by decide) rfl (Nat.le_of_ble_eq_true rfl) ?_
  intro p_ e_ s_ m_ args_ below_ meth_ c_ A_ S g_r g_k g_n hK hA
  refine gw_eq (ws' := [(mo, .inr (9, [.ref xm, .ref xs, .ref xt, .ref xk, .ref xp, .ref xr, .ref xc, .ref xu, .ref xe, .ref xb, .ref xa, .ref xl, .ref xg, .int pl, .int ft, .int tw, .int inn, .int bd, .int py, .ref x1, .ref x2, .ref x3, .ref x4, .int ap, .ref xq, .int qd, .ref xz, .ref xd, .int ds, .int fl, .int u4])), (xb, .inl (cA 0, 8, .inl bal)), (xa, .inl (cA 0, 8, .inl ak)), (xl, .inl (cA 0, 8, .inl lt))]) (lv' := [(0, .ref mo), (1, .int x), (2, .int y), (3, .int w)]) (st' := []) (pc' := 0) rfl rfl rfl rfl ?_
  refine gw_iload_n S dc_Mod_account_0 rfl 1 rfl ?_
  refine gw_iconst (v := 0) S dc_Mod_account_1 (by decide) ?_
  refine gw_bipush (v := 7) S dc_Mod_account_2 (by decide) ?_
  refine gw_callSR (As := [.int x, .int 0, .int 7]) (st := []) S hK (c_Mod_in l D cA x 0 7 ) (cw_Mod_101 S.2.2.2.2 rfl rfl ⟨Nat.le_of_ble_eq_true rfl, Nat.le_of_ble_eq_true rfl⟩) [] rfl (by decide) rfl rfl (Nat.le_of_ble_eq_true rfl) dc_Mod_account_4 ⟨Nat.le_of_ble_eq_true rfl, Nat.le_of_ble_eq_true rfl⟩ ?_
  rintro _ rfl
  refine gw_eq (ws' := [(mo, .inr (9, [.ref xm, .ref xs, .ref xt, .ref xk, .ref xp, .ref xr, .ref xc, .ref xu, .ref xe, .ref xb, .ref xa, .ref xl, .ref xg, .int pl, .int ft, .int tw, .int inn, .int bd, .int py, .ref x1, .ref x2, .ref x3, .ref x4, .int ap, .ref xq, .int qd, .ref xz, .ref xd, .int ds, .int fl, .int u4])), (xb, .inl (cA 0, 8, .inl bal)), (xa, .inl (cA 0, 8, .inl ak)), (xl, .inl (cA 0, 8, .inl lt))]) (lv' := [(0, .ref mo), (1, .int x), (2, .int y), (3, .int w)]) (st' := [.int (f_Mod_in x 0 7)]) (pc' := 7) rfl rfl rfl rfl ?_
  refine gw_if_eq (tgt := 20) S dc_Mod_account_7 (by decide) (fun c_2 => ?_) (fun c_2 => ?_)
  · -- taken
    refine gw_iconst (v := -1) S dc_Mod_account_20 (by decide) ?_
    exact gw_iret (w := [(mo, .inr (9, [.ref xm, .ref xs, .ref xt, .ref xk, .ref xp, .ref xr, .ref xc, .ref xu, .ref xe, .ref xb, .ref xa, .ref xl, .ref xg, .int pl, .int ft, .int tw, .int inn, .int bd, .int py, .ref x1, .ref x2, .ref x3, .ref x4, .int ap, .ref xq, .int qd, .ref xz, .ref xd, .int ds, .int fl, .int u4])), (xb, .inl (cA 0, 8, .inl bal)), (xa, .inl (cA 0, 8, .inl ak)), (xl, .inl (cA 0, 8, .inl lt))]) S g_r g_k  [0, 1, 2, 3] rfl (by decide) ⟨(by simp only [f_Mod_account, f_Mod_account_1, f_Mod_account_2, f_Mod_account_3, if_pos c_2]), (by simp only [f_Mod_account, f_Mod_account_1, f_Mod_account_2, f_Mod_account_3, if_pos c_2])⟩ dc_Mod_account_21
  · -- not
    refine gw_iload_n S dc_Mod_account_10 rfl 2 rfl ?_
    refine gw_iconst (v := 0) S dc_Mod_account_11 (by decide) ?_
    refine gw_ldc (v := 9999999) S (gw_lk S mw_930) dc_Mod_account_12 ?_
    refine gw_callSR (As := [.int y, .int 0, .int 9999999]) (st := []) S hK (c_Mod_in l D cA y 0 9999999 ) (cw_Mod_101 S.2.2.2.2 rfl rfl ⟨Nat.le_of_ble_eq_true rfl, Nat.le_of_ble_eq_true rfl⟩) [] rfl (by decide) rfl rfl (Nat.le_of_ble_eq_true rfl) dc_Mod_account_14 ⟨Nat.le_of_ble_eq_true rfl, Nat.le_of_ble_eq_true rfl⟩ ?_
    rintro _ rfl
    refine gw_eq (ws' := [(mo, .inr (9, [.ref xm, .ref xs, .ref xt, .ref xk, .ref xp, .ref xr, .ref xc, .ref xu, .ref xe, .ref xb, .ref xa, .ref xl, .ref xg, .int pl, .int ft, .int tw, .int inn, .int bd, .int py, .ref x1, .ref x2, .ref x3, .ref x4, .int ap, .ref xq, .int qd, .ref xz, .ref xd, .int ds, .int fl, .int u4])), (xb, .inl (cA 0, 8, .inl bal)), (xa, .inl (cA 0, 8, .inl ak)), (xl, .inl (cA 0, 8, .inl lt))]) (lv' := [(0, .ref mo), (1, .int x), (2, .int y), (3, .int w)]) (st' := [.int (f_Mod_in y 0 9999999)]) (pc' := 17) rfl rfl rfl rfl ?_
    refine gw_if_ne (tgt := 22) S dc_Mod_account_17 (by decide) (fun c_4 => ?_) (fun c_4 => ?_)
    · -- taken
      refine gw_aload_n S dc_Mod_account_22 rfl 0 rfl ?_
      refine gw_get S hK.1 ic_Mod rfl 9 (by decide) (gw_lk S mw_789) 0 rfl rfl dc_Mod_account_23 ?_
      refine gw_iload_n S dc_Mod_account_26 rfl 1 rfl ?_
      refine gw_iload_n S dc_Mod_account_27 rfl 2 rfl ?_
      refine gw_iast (ws' := [(mo, .inr (9, [.ref xm, .ref xs, .ref xt, .ref xk, .ref xp, .ref xr, .ref xc, .ref xu, .ref xe, .ref xb, .ref xa, .ref xl, .ref xg, .int pl, .int ft, .int tw, .int inn, .int bd, .int py, .ref x1, .ref x2, .ref x3, .ref x4, .int ap, .ref xq, .int qd, .ref xz, .ref xd, .int ds, .int fl, .int u4])), (xb, .inl (cA 0, 8, .inl (upd bal (Int32.toNatClampNeg x) y))), (xa, .inl (cA 0, 8, .inl ak)), (xl, .inl (cA 0, 8, .inl lt))]) S hK.1 1 0 rfl rfl (in_in (by decide) c_2) rfl dc_Mod_account_28 ?_
      refine gw_aload_n S dc_Mod_account_29 rfl 0 rfl ?_
      refine gw_get S hK.1 ic_Mod rfl 10 (by decide) (gw_lk S mw_790) 0 rfl rfl dc_Mod_account_30 ?_
      refine gw_iload_n S dc_Mod_account_33 rfl 1 rfl ?_
      refine gw_iload_n S dc_Mod_account_34 rfl 3 rfl ?_
      refine gw_iast (ws' := [(mo, .inr (9, [.ref xm, .ref xs, .ref xt, .ref xk, .ref xp, .ref xr, .ref xc, .ref xu, .ref xe, .ref xb, .ref xa, .ref xl, .ref xg, .int pl, .int ft, .int tw, .int inn, .int bd, .int py, .ref x1, .ref x2, .ref x3, .ref x4, .int ap, .ref xq, .int qd, .ref xz, .ref xd, .int ds, .int fl, .int u4])), (xb, .inl (cA 0, 8, .inl (upd bal (Int32.toNatClampNeg x) y))), (xa, .inl (cA 0, 8, .inl (upd ak (Int32.toNatClampNeg x) w))), (xl, .inl (cA 0, 8, .inl lt))]) S hK.1 2 0 rfl rfl (in_in (by decide) c_2) rfl dc_Mod_account_35 ?_
      refine gw_aload_n S dc_Mod_account_36 rfl 0 rfl ?_
      refine gw_get S hK.1 ic_Mod rfl 11 (by decide) (gw_lk S mw_791) 0 rfl rfl dc_Mod_account_37 ?_
      refine gw_iload_n S dc_Mod_account_40 rfl 1 rfl ?_
      refine gw_iconst (v := 0) S dc_Mod_account_41 (by decide) ?_
      refine gw_iast (ws' := [(mo, .inr (9, [.ref xm, .ref xs, .ref xt, .ref xk, .ref xp, .ref xr, .ref xc, .ref xu, .ref xe, .ref xb, .ref xa, .ref xl, .ref xg, .int pl, .int ft, .int tw, .int inn, .int bd, .int py, .ref x1, .ref x2, .ref x3, .ref x4, .int ap, .ref xq, .int qd, .ref xz, .ref xd, .int ds, .int fl, .int u4])), (xb, .inl (cA 0, 8, .inl (upd bal (Int32.toNatClampNeg x) y))), (xa, .inl (cA 0, 8, .inl (upd ak (Int32.toNatClampNeg x) w))), (xl, .inl (cA 0, 8, .inl (upd lt (Int32.toNatClampNeg x) 0)))]) S hK.1 3 0 rfl rfl (in_in (by decide) c_2) rfl dc_Mod_account_42 ?_
      refine gw_iconst (v := 0) S dc_Mod_account_43 (by decide) ?_
      exact gw_iret (w := [(mo, .inr (9, [.ref xm, .ref xs, .ref xt, .ref xk, .ref xp, .ref xr, .ref xc, .ref xu, .ref xe, .ref xb, .ref xa, .ref xl, .ref xg, .int pl, .int ft, .int tw, .int inn, .int bd, .int py, .ref x1, .ref x2, .ref x3, .ref x4, .int ap, .ref xq, .int qd, .ref xz, .ref xd, .int ds, .int fl, .int u4])), (xb, .inl (cA 0, 8, .inl (upd bal (Int32.toNatClampNeg x) y))), (xa, .inl (cA 0, 8, .inl (upd ak (Int32.toNatClampNeg x) w))), (xl, .inl (cA 0, 8, .inl (upd lt (Int32.toNatClampNeg x) 0)))]) S g_r g_k  [0, 1, 2, 3] rfl (by decide) ⟨(by simp only [f_Mod_account, f_Mod_account_1, f_Mod_account_2, f_Mod_account_3, if_neg c_2, if_neg c_4]), (by simp only [f_Mod_account, f_Mod_account_1, f_Mod_account_2, f_Mod_account_3, if_neg c_2, if_neg c_4])⟩ dc_Mod_account_44
    · -- not
      refine gw_iconst (v := -1) S dc_Mod_account_20 (by decide) ?_
      exact gw_iret (w := [(mo, .inr (9, [.ref xm, .ref xs, .ref xt, .ref xk, .ref xp, .ref xr, .ref xc, .ref xu, .ref xe, .ref xb, .ref xa, .ref xl, .ref xg, .int pl, .int ft, .int tw, .int inn, .int bd, .int py, .ref x1, .ref x2, .ref x3, .ref x4, .int ap, .ref xq, .int qd, .ref xz, .ref xd, .int ds, .int fl, .int u4])), (xb, .inl (cA 0, 8, .inl bal)), (xa, .inl (cA 0, 8, .inl ak)), (xl, .inl (cA 0, 8, .inl lt))]) S g_r g_k  [0, 1, 2, 3] rfl (by decide) ⟨(by simp only [f_Mod_account, f_Mod_account_1, f_Mod_account_2, f_Mod_account_3, if_neg c_2, if_pos c_4]), (by simp only [f_Mod_account, f_Mod_account_1, f_Mod_account_2, f_Mod_account_3, if_neg c_2, if_pos c_4])⟩ dc_Mod_account_21
def f_Mod_setting (x : Int32) (y : Int32) : Int32 := if (f_Mod_in x 0 6) = 0 then (-1) else (if (f_Mod_in y 0 (if x = 0 then 999999 else (if x = 2 then 999999 else (if x = 3 then 999999 else (65535))))) = 0 then (-1) else (0))
def f_Mod_setting_1 (g : Nat → Int32) (x : Int32) (y : Int32) : Nat → Int32 := if (f_Mod_in x 0 6) = 0 then g else (if (f_Mod_in y 0 (if x = 0 then 999999 else (if x = 2 then 999999 else (if x = 3 then 999999 else (65535))))) = 0 then g else (upd g (Int32.toNatClampNeg x) y))
set_option maxRecDepth 100000 in
set_option maxHeartbeats 4000000 in
theorem c_Mod_setting (l : Launch) (D : va_G) (cA : Nat → ClassId) (sz : Nat) (mo : Nat) (xm : Nat) (xs : Nat) (xt : Nat) (xk : Nat) (xp : Nat) (xr : Nat) (xc : Nat) (xu : Nat) (xe : Nat) (xb : Nat) (xa : Nat) (xl : Nat) (xg : Nat) (x1 : Nat) (x2 : Nat) (x3 : Nat) (x4 : Nat) (xq : Nat) (xz : Nat) (xd : Nat) (pl : Int32) (ft : Int32) (tw : Int32) (inn : Int32) (bd : Int32) (py : Int32) (ap : Int32) (qd : Int32) (ds : Int32) (fl : Int32) (u4 : Int32) (g : Nat → Int32) (x : Int32) (y : Int32)  : ct_M l D cA yn_Mod_setting cd_Mod_setting 2 0 0 sz [.ref mo, .int x, .int y] [(mo, .inr (9, [.ref xm, .ref xs, .ref xt, .ref xk, .ref xp, .ref xr, .ref xc, .ref xu, .ref xe, .ref xb, .ref xa, .ref xl, .ref xg, .int pl, .int ft, .int tw, .int inn, .int bd, .int py, .ref x1, .ref x2, .ref x3, .ref x4, .int ap, .ref xq, .int qd, .ref xz, .ref xd, .int ds, .int fl, .int u4])), (xg, .inl (cA 0, 7, .inl g))] (fun v_ w_ => v_ = some (.int (f_Mod_setting x y)) ∧ w_ = [(mo, .inr (9, [.ref xm, .ref xs, .ref xt, .ref xk, .ref xp, .ref xr, .ref xc, .ref xu, .ref xe, .ref xb, .ref xa, .ref xl, .ref xg, .int pl, .int ft, .int tw, .int inn, .int bd, .int py, .ref x1, .ref x2, .ref x3, .ref x4, .int ap, .ref xq, .int qd, .ref xz, .ref xd, .int ds, .int fl, .int u4])), (xg, .inl (cA 0, 7, .inl (f_Mod_setting_1 g x y)))]) := by
  refine gw_met (by decide) rfl (Nat.le_of_ble_eq_true rfl) ?_
  intro p_ e_ s_ m_ args_ below_ meth_ c_ A_ S g_r g_k g_n hK hA
  refine gw_eq (ws' := [(mo, .inr (9, [.ref xm, .ref xs, .ref xt, .ref xk, .ref xp, .ref xr, .ref xc, .ref xu, .ref xe, .ref xb, .ref xa, .ref xl, .ref xg, .int pl, .int ft, .int tw, .int inn, .int bd, .int py, .ref x1, .ref x2, .ref x3, .ref x4, .int ap, .ref xq, .int qd, .ref xz, .ref xd, .int ds, .int fl, .int u4])), (xg, .inl (cA 0, 7, .inl g))]) (lv' := [(0, .ref mo), (1, .int x), (2, .int y)]) (st' := []) (pc' := 0) rfl rfl rfl rfl ?_
  refine gw_iload_n S dc_Mod_setting_0 rfl 1 rfl ?_
  refine gw_iconst (v := 0) S dc_Mod_setting_1 (by decide) ?_
  refine gw_bipush (v := 6) S dc_Mod_setting_2 (by decide) ?_
  refine gw_callSR (As := [.int x, .int 0, .int 6]) (st := []) S hK (c_Mod_in l D cA x 0 6 ) (cw_Mod_101 S.2.2.2.2 rfl rfl ⟨Nat.le_of_ble_eq_true rfl, Nat.le_of_ble_eq_true rfl⟩) [] rfl (by decide) rfl rfl (Nat.le_of_ble_eq_true rfl) dc_Mod_setting_4 ⟨Nat.le_of_ble_eq_true rfl, Nat.le_of_ble_eq_true rfl⟩ ?_
  rintro _ rfl
  refine gw_eq (ws' := [(mo, .inr (9, [.ref xm, .ref xs, .ref xt, .ref xk, .ref xp, .ref xr, .ref xc, .ref xu, .ref xe, .ref xb, .ref xa, .ref xl, .ref xg, .int pl, .int ft, .int tw, .int inn, .int bd, .int py, .ref x1, .ref x2, .ref x3, .ref x4, .int ap, .ref xq, .int qd, .ref xz, .ref xd, .int ds, .int fl, .int u4])), (xg, .inl (cA 0, 7, .inl g))]) (lv' := [(0, .ref mo), (1, .int x), (2, .int y)]) (st' := [.int (f_Mod_in x 0 6)]) (pc' := 7) rfl rfl rfl rfl ?_
  refine gw_if_eq (tgt := 39) S dc_Mod_setting_7 (by decide) (fun c_2 => ?_) (fun c_2 => ?_)
  · -- taken
    refine gw_iconst (v := -1) S dc_Mod_setting_39 (by decide) ?_
    exact gw_iret (w := [(mo, .inr (9, [.ref xm, .ref xs, .ref xt, .ref xk, .ref xp, .ref xr, .ref xc, .ref xu, .ref xe, .ref xb, .ref xa, .ref xl, .ref xg, .int pl, .int ft, .int tw, .int inn, .int bd, .int py, .ref x1, .ref x2, .ref x3, .ref x4, .int ap, .ref xq, .int qd, .ref xz, .ref xd, .int ds, .int fl, .int u4])), (xg, .inl (cA 0, 7, .inl g))]) S g_r g_k  [0, 1] rfl (by decide) ⟨(by simp only [f_Mod_setting, f_Mod_setting_1, if_pos c_2]), (by simp only [f_Mod_setting, f_Mod_setting_1, if_pos c_2])⟩ dc_Mod_setting_40
  · -- not
    refine gw_iload_n S dc_Mod_setting_10 rfl 2 rfl ?_
    refine gw_iconst (v := 0) S dc_Mod_setting_11 (by decide) ?_
    refine gw_iload_n S dc_Mod_setting_12 rfl 1 rfl ?_
    refine gw_jw (ws2 := [(mo, .inr (9, [.ref xm, .ref xs, .ref xt, .ref xk, .ref xp, .ref xr, .ref xc, .ref xu, .ref xe, .ref xb, .ref xa, .ref xl, .ref xg, .int pl, .int ft, .int tw, .int inn, .int bd, .int py, .ref x1, .ref x2, .ref x3, .ref x4, .int ap, .ref xq, .int qd, .ref xz, .ref xd, .int ds, .int fl, .int u4])), (xg, .inl (cA 0, 7, .inl g))]) (lv2 := [(0, .ref mo), (1, .int x), (2, .int y)]) (st2 := [.int (if x = 0 then 999999 else (if x = 2 then 999999 else (if x = 3 then 999999 else (65535)))), .int 0, .int y]) (pc2 := 33) ?_ (fun kJ_3 => ?_)
    rotate_left
    · -- join at 33
      refine gw_if_eq (tgt := 26) S dc_Mod_setting_13 (by decide) (fun c_4 => ?_) (fun c_4 => ?_)
      · -- taken
        refine gw_ldc (v := 999999) S (gw_lk S mw_935) dc_Mod_setting_26 ?_
        refine gw_goto (tgt := 33) S dc_Mod_setting_28 (by decide) ?_
        exact kJ_3 _ _ _ (by simp only [if_pos c_4]) (by simp only [if_pos c_4]) (by simp only [if_pos c_4])
      · -- not
        refine gw_iload_n S dc_Mod_setting_16 rfl 1 rfl ?_
        refine gw_iconst (v := 2) S dc_Mod_setting_17 (by decide) ?_
        refine gw_icmp_eq (tgt := 26) S dc_Mod_setting_18 (by decide) (fun c_5 => ?_) (fun c_5 => ?_)
        · -- taken
          refine gw_ldc (v := 999999) S (gw_lk S mw_935) dc_Mod_setting_26 ?_
          refine gw_goto (tgt := 33) S dc_Mod_setting_28 (by decide) ?_
          exact kJ_3 _ _ _ (by simp only [if_neg c_4, if_pos c_5]) (by simp only [if_neg c_4, if_pos c_5]) (by simp only [if_neg c_4, if_pos c_5])
        · -- not
          refine gw_iload_n S dc_Mod_setting_21 rfl 1 rfl ?_
          refine gw_iconst (v := 3) S dc_Mod_setting_22 (by decide) ?_
          refine gw_icmp_ne (tgt := 31) S dc_Mod_setting_23 (by decide) (fun c_6 => ?_) (fun c_6 => ?_)
          · -- taken
            refine gw_ldc (v := 65535) S (gw_lk S mw_936) dc_Mod_setting_31 ?_
            exact kJ_3 _ _ _ (by simp only [if_neg c_4, if_neg c_5, if_neg c_6]) (by simp only [if_neg c_4, if_neg c_5, if_neg c_6]) (by simp only [if_neg c_4, if_neg c_5, if_neg c_6])
          · -- not
            refine gw_ldc (v := 999999) S (gw_lk S mw_935) dc_Mod_setting_26 ?_
            refine gw_goto (tgt := 33) S dc_Mod_setting_28 (by decide) ?_
            exact kJ_3 _ _ _ (by simp only [if_neg c_4, if_neg c_5, if_pos c_6]) (by simp only [if_neg c_4, if_neg c_5, if_pos c_6]) (by simp only [if_neg c_4, if_neg c_5, if_pos c_6])
    refine gw_callSR (As := [.int y, .int 0, .int (if x = 0 then 999999 else (if x = 2 then 999999 else (if x = 3 then 999999 else (65535))))]) (st := []) S hK (c_Mod_in l D cA y 0 (if x = 0 then 999999 else (if x = 2 then 999999 else (if x = 3 then 999999 else (65535)))) ) (cw_Mod_101 S.2.2.2.2 rfl rfl ⟨Nat.le_of_ble_eq_true rfl, Nat.le_of_ble_eq_true rfl⟩) [] rfl (by decide) rfl rfl (Nat.le_of_ble_eq_true rfl) dc_Mod_setting_33 ⟨Nat.le_of_ble_eq_true rfl, Nat.le_of_ble_eq_true rfl⟩ ?_
    rintro _ rfl
    refine gw_eq (ws' := [(mo, .inr (9, [.ref xm, .ref xs, .ref xt, .ref xk, .ref xp, .ref xr, .ref xc, .ref xu, .ref xe, .ref xb, .ref xa, .ref xl, .ref xg, .int pl, .int ft, .int tw, .int inn, .int bd, .int py, .ref x1, .ref x2, .ref x3, .ref x4, .int ap, .ref xq, .int qd, .ref xz, .ref xd, .int ds, .int fl, .int u4])), (xg, .inl (cA 0, 7, .inl g))]) (lv' := [(0, .ref mo), (1, .int x), (2, .int y)]) (st' := [.int (f_Mod_in y 0 (if x = 0 then 999999 else (if x = 2 then 999999 else (if x = 3 then 999999 else (65535)))))]) (pc' := 36) rfl rfl rfl rfl ?_
    refine gw_if_ne (tgt := 41) S dc_Mod_setting_36 (by decide) (fun c_8 => ?_) (fun c_8 => ?_)
    · -- taken
      refine gw_aload_n S dc_Mod_setting_41 rfl 0 rfl ?_
      refine gw_get S hK.1 ic_Mod rfl 12 (by decide) (gw_lk S mw_792) 0 rfl rfl dc_Mod_setting_42 ?_
      refine gw_iload_n S dc_Mod_setting_45 rfl 1 rfl ?_
      refine gw_iload_n S dc_Mod_setting_46 rfl 2 rfl ?_
      refine gw_iast (ws' := [(mo, .inr (9, [.ref xm, .ref xs, .ref xt, .ref xk, .ref xp, .ref xr, .ref xc, .ref xu, .ref xe, .ref xb, .ref xa, .ref xl, .ref xg, .int pl, .int ft, .int tw, .int inn, .int bd, .int py, .ref x1, .ref x2, .ref x3, .ref x4, .int ap, .ref xq, .int qd, .ref xz, .ref xd, .int ds, .int fl, .int u4])), (xg, .inl (cA 0, 7, .inl (upd g (Int32.toNatClampNeg x) y)))]) S hK.1 1 0 rfl rfl (in_in (by decide) c_2) rfl dc_Mod_setting_47 ?_
      refine gw_iconst (v := 0) S dc_Mod_setting_48 (by decide) ?_
      exact gw_iret (w := [(mo, .inr (9, [.ref xm, .ref xs, .ref xt, .ref xk, .ref xp, .ref xr, .ref xc, .ref xu, .ref xe, .ref xb, .ref xa, .ref xl, .ref xg, .int pl, .int ft, .int tw, .int inn, .int bd, .int py, .ref x1, .ref x2, .ref x3, .ref x4, .int ap, .ref xq, .int qd, .ref xz, .ref xd, .int ds, .int fl, .int u4])), (xg, .inl (cA 0, 7, .inl (upd g (Int32.toNatClampNeg x) y)))]) S g_r g_k  [0, 1] rfl (by decide) ⟨(by simp only [f_Mod_setting, f_Mod_setting_1, if_neg c_2, if_neg c_8]), (by simp only [f_Mod_setting, f_Mod_setting_1, if_neg c_2, if_neg c_8])⟩ dc_Mod_setting_49
    · -- not
      refine gw_iconst (v := -1) S dc_Mod_setting_39 (by decide) ?_
      exact gw_iret (w := [(mo, .inr (9, [.ref xm, .ref xs, .ref xt, .ref xk, .ref xp, .ref xr, .ref xc, .ref xu, .ref xe, .ref xb, .ref xa, .ref xl, .ref xg, .int pl, .int ft, .int tw, .int inn, .int bd, .int py, .ref x1, .ref x2, .ref x3, .ref x4, .int ap, .ref xq, .int qd, .ref xz, .ref xd, .int ds, .int fl, .int u4])), (xg, .inl (cA 0, 7, .inl g))]) S g_r g_k  [0, 1] rfl (by decide) ⟨(by simp only [f_Mod_setting, f_Mod_setting_1, if_neg c_2, if_pos c_8]), (by simp only [f_Mod_setting, f_Mod_setting_1, if_neg c_2, if_pos c_8])⟩ dc_Mod_setting_40
def f_Mod_last (lst : Nat → Int32) (x : Int32) : Int32 := if (f_Mod_in x 0 8) = 0 then (-1) else (lst (Int32.toNatClampNeg x))
set_option maxRecDepth 100000 in
set_option maxHeartbeats 4000000 in
theorem c_Mod_last (l : Launch) (D : va_G) (cA : Nat → ClassId) (mo : Nat) (xm : Nat) (xs : Nat) (xt : Nat) (xk : Nat) (xp : Nat) (xr : Nat) (xc : Nat) (xu : Nat) (xe : Nat) (xb : Nat) (xa : Nat) (xl : Nat) (xg : Nat) (x1 : Nat) (x2 : Nat) (x3 : Nat) (x4 : Nat) (xq : Nat) (xz : Nat) (xd : Nat) (pl : Int32) (ft : Int32) (tw : Int32) (inn : Int32) (bd : Int32) (py : Int32) (ap : Int32) (qd : Int32) (ds : Int32) (fl : Int32) (u4 : Int32) (lst : Nat → Int32) (x : Int32)  : ct_R l D cA yn_Mod_last cd_Mod_last 2 [.ref mo, .int x] [(mo, .inr (9, [.ref xm, .ref xs, .ref xt, .ref xk, .ref xp, .ref xr, .ref xc, .ref xu, .ref xe, .ref xb, .ref xa, .ref xl, .ref xg, .int pl, .int ft, .int tw, .int inn, .int bd, .int py, .ref x1, .ref x2, .ref x3, .ref x4, .int ap, .ref xq, .int qd, .ref xz, .ref xd, .int ds, .int fl, .int u4])), (xz, .inl (cA 0, 9, .inl lst))] (fun v_ => v_ = some (.int (f_Mod_last lst x))) := by
  refine gw_metR (by decide) rfl (Nat.le_of_ble_eq_true rfl) ?_
  intro p_ e_ s_ m_ args_ below_ meth_ c_ S g_r g_k hK
  refine gw_eq (ws' := [(mo, .inr (9, [.ref xm, .ref xs, .ref xt, .ref xk, .ref xp, .ref xr, .ref xc, .ref xu, .ref xe, .ref xb, .ref xa, .ref xl, .ref xg, .int pl, .int ft, .int tw, .int inn, .int bd, .int py, .ref x1, .ref x2, .ref x3, .ref x4, .int ap, .ref xq, .int qd, .ref xz, .ref xd, .int ds, .int fl, .int u4])), (xz, .inl (cA 0, 9, .inl lst))]) (lv' := [(0, .ref mo), (1, .int x)]) (st' := []) (pc' := 0) rfl rfl rfl rfl ?_
  refine gw_iload_n S dc_Mod_last_0 rfl 1 rfl ?_
  refine gw_iconst (v := 0) S dc_Mod_last_1 (by decide) ?_
  refine gw_bipush (v := 8) S dc_Mod_last_2 (by decide) ?_
  refine gw_callSR (As := [.int x, .int 0, .int 8]) (st := []) S hK (c_Mod_in l D cA x 0 8 ) (cw_Mod_101 S.2.2.2.2 rfl rfl ⟨Nat.le_of_ble_eq_true rfl, Nat.le_of_ble_eq_true rfl⟩) [] rfl (by decide) rfl rfl (Nat.le_of_ble_eq_true rfl) dc_Mod_last_4 ⟨Nat.le_of_ble_eq_true rfl, Nat.le_of_ble_eq_true rfl⟩ ?_
  rintro _ rfl
  refine gw_eq (ws' := [(mo, .inr (9, [.ref xm, .ref xs, .ref xt, .ref xk, .ref xp, .ref xr, .ref xc, .ref xu, .ref xe, .ref xb, .ref xa, .ref xl, .ref xg, .int pl, .int ft, .int tw, .int inn, .int bd, .int py, .ref x1, .ref x2, .ref x3, .ref x4, .int ap, .ref xq, .int qd, .ref xz, .ref xd, .int ds, .int fl, .int u4])), (xz, .inl (cA 0, 9, .inl lst))]) (lv' := [(0, .ref mo), (1, .int x)]) (st' := [.int (f_Mod_in x 0 8)]) (pc' := 7) rfl rfl rfl rfl ?_
  refine gw_if_eq (tgt := 19) S dc_Mod_last_7 (by decide) (fun c_2 => ?_) (fun c_2 => ?_)
  · -- taken
    refine gw_iconst (v := -1) S dc_Mod_last_19 (by decide) ?_
    exact gw_iretR S g_r g_k  (by simp only [f_Mod_last, if_pos c_2]) dc_Mod_last_20
  · -- not
    refine gw_aload_n S dc_Mod_last_10 rfl 0 rfl ?_
    refine gw_get S hK.1 ic_Mod rfl 26 (by decide) (gw_lk S mw_806) 0 rfl rfl dc_Mod_last_11 ?_
    refine gw_iload_n S dc_Mod_last_14 rfl 1 rfl ?_
    refine gw_iald S hK.1 1 0 rfl rfl (in_in (by decide) c_2) dc_Mod_last_15 ?_
    refine gw_goto (tgt := 20) S dc_Mod_last_16 (by decide) ?_
    exact gw_iretR S g_r g_k  (by simp only [f_Mod_last, if_neg c_2]) dc_Mod_last_20
def f_Mod_data (ds : Int32) (dt : Nat → Int32) (x : Int32) : Int32 := if x < 0 then (-1) else (if ds ≤ x then (-1) else (dt (Int32.toNatClampNeg x)))
set_option maxRecDepth 100000 in
set_option maxHeartbeats 4000000 in
theorem c_Mod_data (l : Launch) (D : va_G) (cA : Nat → ClassId) (mo : Nat) (xm : Nat) (xs : Nat) (xt : Nat) (xk : Nat) (xp : Nat) (xr : Nat) (xc : Nat) (xu : Nat) (xe : Nat) (xb : Nat) (xa : Nat) (xl : Nat) (xg : Nat) (x1 : Nat) (x2 : Nat) (x3 : Nat) (x4 : Nat) (xq : Nat) (xz : Nat) (xd : Nat) (pl : Int32) (ft : Int32) (tw : Int32) (inn : Int32) (bd : Int32) (py : Int32) (ap : Int32) (qd : Int32) (ds : Int32) (fl : Int32) (u4 : Int32) (dt : Nat → Int32) (x : Int32) (hd : rw_ok ds 40) : ct_R l D cA yn_Mod_data cd_Mod_data 1 [.ref mo, .int x] [(mo, .inr (9, [.ref xm, .ref xs, .ref xt, .ref xk, .ref xp, .ref xr, .ref xc, .ref xu, .ref xe, .ref xb, .ref xa, .ref xl, .ref xg, .int pl, .int ft, .int tw, .int inn, .int bd, .int py, .ref x1, .ref x2, .ref x3, .ref x4, .int ap, .ref xq, .int qd, .ref xz, .ref xd, .int ds, .int fl, .int u4])), (xd, .inl (cA 0, 40, .inl dt))] (fun v_ => v_ = some (.int (f_Mod_data ds dt x))) := by
  refine gw_metR (by decide) rfl (Nat.le_of_ble_eq_true rfl) ?_
  intro p_ e_ s_ m_ args_ below_ meth_ c_ S g_r g_k hK
  refine gw_eq (ws' := [(mo, .inr (9, [.ref xm, .ref xs, .ref xt, .ref xk, .ref xp, .ref xr, .ref xc, .ref xu, .ref xe, .ref xb, .ref xa, .ref xl, .ref xg, .int pl, .int ft, .int tw, .int inn, .int bd, .int py, .ref x1, .ref x2, .ref x3, .ref x4, .int ap, .ref xq, .int qd, .ref xz, .ref xd, .int ds, .int fl, .int u4])), (xd, .inl (cA 0, 40, .inl dt))]) (lv' := [(0, .ref mo), (1, .int x)]) (st' := []) (pc' := 0) rfl rfl rfl rfl ?_
  refine gw_iload_n S dc_Mod_data_0 rfl 1 rfl ?_
  refine gw_if_lt (tgt := 21) S dc_Mod_data_1 (by decide) (fun c_1 => ?_) (fun c_1 => ?_)
  · -- taken
    refine gw_iconst (v := -1) S dc_Mod_data_21 (by decide) ?_
    exact gw_iretR S g_r g_k  (by simp only [f_Mod_data, if_pos c_1]) dc_Mod_data_22
  · -- not
    refine gw_iload_n S dc_Mod_data_4 rfl 1 rfl ?_
    refine gw_aload_n S dc_Mod_data_5 rfl 0 rfl ?_
    refine gw_get S hK.1 ic_Mod rfl 28 (by decide) (gw_lk S mw_808) 0 rfl rfl dc_Mod_data_6 ?_
    refine gw_icmp_ge (tgt := 21) S dc_Mod_data_9 (by decide) (fun c_2 => ?_) (fun c_2 => ?_)
    · -- taken
      refine gw_iconst (v := -1) S dc_Mod_data_21 (by decide) ?_
      exact gw_iretR S g_r g_k  (by simp only [f_Mod_data, if_neg c_1, if_pos c_2]) dc_Mod_data_22
    · -- not
      refine gw_aload_n S dc_Mod_data_12 rfl 0 rfl ?_
      refine gw_get S hK.1 ic_Mod rfl 27 (by decide) (gw_lk S mw_807) 0 rfl rfl dc_Mod_data_13 ?_
      refine gw_iload_n S dc_Mod_data_16 rfl 1 rfl ?_
      refine gw_iald S hK.1 1 0 rfl rfl (md_q hd c_1 c_2) dc_Mod_data_17 ?_
      refine gw_goto (tgt := 22) S dc_Mod_data_18 (by decide) ?_
      exact gw_iretR S g_r g_k  (by simp only [f_Mod_data, if_neg c_1, if_neg c_2]) dc_Mod_data_22
def f_Mod_queued (qd : Int32) (que : Nat → Int32) (x : Int32) : Int32 := if x < 0 then (-1) else (if qd ≤ x then (-1) else (que (Int32.toNatClampNeg x)))
set_option maxRecDepth 100000 in
set_option maxHeartbeats 4000000 in
theorem c_Mod_queued (l : Launch) (D : va_G) (cA : Nat → ClassId) (mo : Nat) (xm : Nat) (xs : Nat) (xt : Nat) (xk : Nat) (xp : Nat) (xr : Nat) (xc : Nat) (xu : Nat) (xe : Nat) (xb : Nat) (xa : Nat) (xl : Nat) (xg : Nat) (x1 : Nat) (x2 : Nat) (x3 : Nat) (x4 : Nat) (xq : Nat) (xz : Nat) (xd : Nat) (pl : Int32) (ft : Int32) (tw : Int32) (inn : Int32) (bd : Int32) (py : Int32) (ap : Int32) (qd : Int32) (ds : Int32) (fl : Int32) (u4 : Int32) (que : Nat → Int32) (x : Int32) (hq : rw_ok qd 7) : ct_R l D cA yn_Mod_queued cd_Mod_queued 1 [.ref mo, .int x] [(mo, .inr (9, [.ref xm, .ref xs, .ref xt, .ref xk, .ref xp, .ref xr, .ref xc, .ref xu, .ref xe, .ref xb, .ref xa, .ref xl, .ref xg, .int pl, .int ft, .int tw, .int inn, .int bd, .int py, .ref x1, .ref x2, .ref x3, .ref x4, .int ap, .ref xq, .int qd, .ref xz, .ref xd, .int ds, .int fl, .int u4])), (xq, .inl (cA 0, 7, .inl que))] (fun v_ => v_ = some (.int (f_Mod_queued qd que x))) := by
  refine gw_metR (by decide) rfl (Nat.le_of_ble_eq_true rfl) ?_
  intro p_ e_ s_ m_ args_ below_ meth_ c_ S g_r g_k hK
  refine gw_eq (ws' := [(mo, .inr (9, [.ref xm, .ref xs, .ref xt, .ref xk, .ref xp, .ref xr, .ref xc, .ref xu, .ref xe, .ref xb, .ref xa, .ref xl, .ref xg, .int pl, .int ft, .int tw, .int inn, .int bd, .int py, .ref x1, .ref x2, .ref x3, .ref x4, .int ap, .ref xq, .int qd, .ref xz, .ref xd, .int ds, .int fl, .int u4])), (xq, .inl (cA 0, 7, .inl que))]) (lv' := [(0, .ref mo), (1, .int x)]) (st' := []) (pc' := 0) rfl rfl rfl rfl ?_
  refine gw_iload_n S dc_Mod_queued_0 rfl 1 rfl ?_
  refine gw_if_lt (tgt := 21) S dc_Mod_queued_1 (by decide) (fun c_1 => ?_) (fun c_1 => ?_)
  · -- taken
    refine gw_iconst (v := -1) S dc_Mod_queued_21 (by decide) ?_
    exact gw_iretR S g_r g_k  (by simp only [f_Mod_queued, if_pos c_1]) dc_Mod_queued_22
  · -- not
    refine gw_iload_n S dc_Mod_queued_4 rfl 1 rfl ?_
    refine gw_aload_n S dc_Mod_queued_5 rfl 0 rfl ?_
    refine gw_get S hK.1 ic_Mod rfl 25 (by decide) (gw_lk S mw_805) 0 rfl rfl dc_Mod_queued_6 ?_
    refine gw_icmp_ge (tgt := 21) S dc_Mod_queued_9 (by decide) (fun c_2 => ?_) (fun c_2 => ?_)
    · -- taken
      refine gw_iconst (v := -1) S dc_Mod_queued_21 (by decide) ?_
      exact gw_iretR S g_r g_k  (by simp only [f_Mod_queued, if_neg c_1, if_pos c_2]) dc_Mod_queued_22
    · -- not
      refine gw_aload_n S dc_Mod_queued_12 rfl 0 rfl ?_
      refine gw_get S hK.1 ic_Mod rfl 24 (by decide) (gw_lk S mw_804) 0 rfl rfl dc_Mod_queued_13 ?_
      refine gw_iload_n S dc_Mod_queued_16 rfl 1 rfl ?_
      refine gw_iald S hK.1 1 0 rfl rfl (md_q hq c_1 c_2) dc_Mod_queued_17 ?_
      refine gw_goto (tgt := 22) S dc_Mod_queued_18 (by decide) ?_
      exact gw_iretR S g_r g_k  (by simp only [f_Mod_queued, if_neg c_1, if_neg c_2]) dc_Mod_queued_22
def f_Mod_balance (bal : Nat → Int32) (x : Int32) : Int64 := if (f_Mod_in x 0 7) = 0 then (-1) else (Int32.toInt64 (bal (Int32.toNatClampNeg x)))
set_option maxRecDepth 100000 in
set_option maxHeartbeats 4000000 in
theorem c_Mod_balance (l : Launch) (D : va_G) (cA : Nat → ClassId) (mo : Nat) (xm : Nat) (xs : Nat) (xt : Nat) (xk : Nat) (xp : Nat) (xr : Nat) (xc : Nat) (xu : Nat) (xe : Nat) (xb : Nat) (xa : Nat) (xl : Nat) (xg : Nat) (x1 : Nat) (x2 : Nat) (x3 : Nat) (x4 : Nat) (xq : Nat) (xz : Nat) (xd : Nat) (pl : Int32) (ft : Int32) (tw : Int32) (inn : Int32) (bd : Int32) (py : Int32) (ap : Int32) (qd : Int32) (ds : Int32) (fl : Int32) (u4 : Int32) (bal : Nat → Int32) (x : Int32)  : ct_R l D cA yn_Mod_balance cd_Mod_balance 2 [.ref mo, .int x] [(mo, .inr (9, [.ref xm, .ref xs, .ref xt, .ref xk, .ref xp, .ref xr, .ref xc, .ref xu, .ref xe, .ref xb, .ref xa, .ref xl, .ref xg, .int pl, .int ft, .int tw, .int inn, .int bd, .int py, .ref x1, .ref x2, .ref x3, .ref x4, .int ap, .ref xq, .int qd, .ref xz, .ref xd, .int ds, .int fl, .int u4])), (xb, .inl (cA 0, 8, .inl bal))] (fun v_ => v_ = some (.long (f_Mod_balance bal x))) := by
  refine gw_metR (by decide) rfl (Nat.le_of_ble_eq_true rfl) ?_
  intro p_ e_ s_ m_ args_ below_ meth_ c_ S g_r g_k hK
  refine gw_eq (ws' := [(mo, .inr (9, [.ref xm, .ref xs, .ref xt, .ref xk, .ref xp, .ref xr, .ref xc, .ref xu, .ref xe, .ref xb, .ref xa, .ref xl, .ref xg, .int pl, .int ft, .int tw, .int inn, .int bd, .int py, .ref x1, .ref x2, .ref x3, .ref x4, .int ap, .ref xq, .int qd, .ref xz, .ref xd, .int ds, .int fl, .int u4])), (xb, .inl (cA 0, 8, .inl bal))]) (lv' := [(0, .ref mo), (1, .int x)]) (st' := []) (pc' := 0) rfl rfl rfl rfl ?_
  refine gw_iload_n S dc_Mod_balance_0 rfl 1 rfl ?_
  refine gw_iconst (v := 0) S dc_Mod_balance_1 (by decide) ?_
  refine gw_bipush (v := 7) S dc_Mod_balance_2 (by decide) ?_
  refine gw_callSR (As := [.int x, .int 0, .int 7]) (st := []) S hK (c_Mod_in l D cA x 0 7 ) (cw_Mod_101 S.2.2.2.2 rfl rfl ⟨Nat.le_of_ble_eq_true rfl, Nat.le_of_ble_eq_true rfl⟩) [] rfl (by decide) rfl rfl (Nat.le_of_ble_eq_true rfl) dc_Mod_balance_4 ⟨Nat.le_of_ble_eq_true rfl, Nat.le_of_ble_eq_true rfl⟩ ?_
  rintro _ rfl
  refine gw_eq (ws' := [(mo, .inr (9, [.ref xm, .ref xs, .ref xt, .ref xk, .ref xp, .ref xr, .ref xc, .ref xu, .ref xe, .ref xb, .ref xa, .ref xl, .ref xg, .int pl, .int ft, .int tw, .int inn, .int bd, .int py, .ref x1, .ref x2, .ref x3, .ref x4, .int ap, .ref xq, .int qd, .ref xz, .ref xd, .int ds, .int fl, .int u4])), (xb, .inl (cA 0, 8, .inl bal))]) (lv' := [(0, .ref mo), (1, .int x)]) (st' := [.int (f_Mod_in x 0 7)]) (pc' := 7) rfl rfl rfl rfl ?_
  refine gw_if_eq (tgt := 20) S dc_Mod_balance_7 (by decide) (fun c_2 => ?_) (fun c_2 => ?_)
  · -- taken
    refine gw_ldc2 (v := -1) S (gw_lk S mw_1027) dc_Mod_balance_20 ?_
    exact gw_lretR S g_r g_k  (by simp only [f_Mod_balance, if_pos c_2]) dc_Mod_balance_23
  · -- not
    refine gw_aload_n S dc_Mod_balance_10 rfl 0 rfl ?_
    refine gw_get S hK.1 ic_Mod rfl 9 (by decide) (gw_lk S mw_789) 0 rfl rfl dc_Mod_balance_11 ?_
    refine gw_iload_n S dc_Mod_balance_14 rfl 1 rfl ?_
    refine gw_iald S hK.1 1 0 rfl rfl (in_in (by decide) c_2) dc_Mod_balance_15 ?_
    refine gw_i2l S dc_Mod_balance_16 rfl ?_
    refine gw_goto (tgt := 23) S dc_Mod_balance_17 (by decide) ?_
    exact gw_lretR S g_r g_k  (by simp only [f_Mod_balance, if_neg c_2]) dc_Mod_balance_23
