theorem iw_iff (x a b : Int32) : f_PC_isWithin x a b = 0 ↔ ¬ (a.toInt ≤ x.toInt ∧ x.toInt ≤ b.toInt) := by
  unfold f_PC_isWithin
  by_cases h1 : x < a
  · rw [if_pos h1]
    rw [Int32.lt_iff_toInt_lt] at h1
    exact ⟨fun _ => by omega, fun _ => rfl⟩
  · rw [if_neg h1]
    rw [Int32.lt_iff_toInt_lt] at h1
    by_cases h2 : b < x
    · rw [if_pos h2]
      rw [Int32.lt_iff_toInt_lt] at h2
      exact ⟨fun _ => by omega, fun _ => rfl⟩
    · rw [if_neg h2]
      rw [Int32.lt_iff_toInt_lt] at h2
      exact ⟨fun h => absurd h (by decide), fun h => absurd ⟨by omega, by omega⟩ h⟩
theorem iw_in {a b : Int32} {N : Nat} (hb : b.toInt < N) (h : ¬ f_PC_isWithin a 0 b = 0) : vp_in a N := by
  rw [iw_iff] at h
  rw [vp_in_iff]
  have h2 : (0 : Int32).toInt = 0 := by decide
  omega
def f_Tree_isObject (z : Int32) (o : Int32) : Int32 := if o < 0 then 0 else (if z ≤ o then 0 else (1))
theorem b_Tree_isObject (z : Int32) (o : Int32) : f_Tree_isObject z o = 0 ∨ f_Tree_isObject z o = 1 := by
  unfold f_Tree_isObject
  exact (bo_ite (Or.inl rfl) (bo_ite (Or.inl rfl) (Or.inr rfl)))
set_option maxRecDepth 100000 in
set_option maxHeartbeats 4000000 in
theorem c_Tree_isObject (l : Launch) (D : va_G) (cA : Nat → ClassId) (h : Nat) (hr : Nat) (ht : Nat) (hs : Nat) (hl : Nat) (hi : Nat) (z : Int32) (o : Int32)  : ct_R l D cA yn_Tree_isObject cd_Tree_isObject 1 [.ref h, .int o] [(h, .inr (4, [.ref hr, .ref ht, .ref hs, .ref hl, .ref hi, .int z]))] (fun v_ => v_ = some (.int (f_Tree_isObject z o))) := by
  refine gw_metR (by decide) rfl (Nat.le_of_ble_eq_true rfl) ?_
  intro p_ e_ s_ m_ args_ below_ meth_ c_ S g_r g_k hK
  refine gw_eq (ws' := [(h, .inr (4, [.ref hr, .ref ht, .ref hs, .ref hl, .ref hi, .int z]))]) (lv' := [(0, .ref h), (1, .int o)]) (st' := []) (pc' := 0) rfl rfl rfl rfl ?_
  refine gw_iload_n S dc_Tree_isObject_0 rfl 1 rfl ?_
  refine gw_if_lt (tgt := 16) S dc_Tree_isObject_1 (by decide) (fun c_1 => ?_) (fun c_1 => ?_)
  · -- taken
    refine gw_iconst (v := 0) S dc_Tree_isObject_16 (by decide) ?_
    exact gw_zretR S g_r g_k rfl (by simp only [f_Tree_isObject, if_pos c_1]) dc_Tree_isObject_17
  · -- not
    refine gw_iload_n S dc_Tree_isObject_4 rfl 1 rfl ?_
    refine gw_aload_n S dc_Tree_isObject_5 rfl 0 rfl ?_
    refine gw_get S hK.1 ic_Tree rfl 5 (by decide) (gw_lk S mw_174) 0 rfl rfl dc_Tree_isObject_6 ?_
    refine gw_icmp_ge (tgt := 16) S dc_Tree_isObject_9 (by decide) (fun c_2 => ?_) (fun c_2 => ?_)
    · -- taken
      refine gw_iconst (v := 0) S dc_Tree_isObject_16 (by decide) ?_
      exact gw_zretR S g_r g_k rfl (by simp only [f_Tree_isObject, if_neg c_1, if_pos c_2]) dc_Tree_isObject_17
    · -- not
      refine gw_iconst (v := 1) S dc_Tree_isObject_12 (by decide) ?_
      refine gw_goto (tgt := 17) S dc_Tree_isObject_13 (by decide) ?_
      exact gw_zretR S g_r g_k rfl (by simp only [f_Tree_isObject, if_neg c_1, if_neg c_2]) dc_Tree_isObject_17
set_option maxRecDepth 100000 in
set_option maxHeartbeats 4000000 in
theorem c_Tree_size (l : Launch) (D : va_G) (cA : Nat → ClassId) (h : Nat) (hr : Nat) (ht : Nat) (hs : Nat) (hl : Nat) (hi : Nat) (z : Int32)  : ct_R l D cA yn_Tree_size cd_Tree_size 1 [.ref h] [(h, .inr (4, [.ref hr, .ref ht, .ref hs, .ref hl, .ref hi, .int z]))] (fun v_ => v_ = some (.int z)) := by
  refine gw_metR (by decide) rfl (Nat.le_of_ble_eq_true rfl) ?_
  intro p_ e_ s_ m_ args_ below_ meth_ c_ S g_r g_k hK
  refine gw_eq (ws' := [(h, .inr (4, [.ref hr, .ref ht, .ref hs, .ref hl, .ref hi, .int z]))]) (lv' := [(0, .ref h)]) (st' := []) (pc' := 0) rfl rfl rfl rfl ?_
  refine gw_aload_n S dc_Tree_size_0 rfl 0 rfl ?_
  refine gw_get S hK.1 ic_Tree rfl 5 (by decide) (gw_lk S mw_174) 0 rfl rfl dc_Tree_size_1 ?_
  exact gw_iretR S g_r g_k  rfl dc_Tree_size_4
theorem tr_in {z o : Int32} (h : rw_ok z 30) (c : ¬ f_Tree_isObject z o = 0) : vp_in o 30 := by
  unfold f_Tree_isObject at c
  by_cases h1 : o < 0
  · rw [if_pos h1] at c; exact absurd rfl c
  · rw [if_neg h1] at c
    by_cases h2 : z ≤ o
    · rw [if_pos h2] at c; exact absurd rfl c
    · exact rw_in h h1 h2
def f_Tree_lengthOf (z : Int32) (ln : Nat → Int32) (o : Int32) : Int32 := if (f_Tree_isObject z o) = 0 then 0 else (ln (Int32.toNatClampNeg o))
set_option maxRecDepth 100000 in
set_option maxHeartbeats 4000000 in
theorem c_Tree_lengthOf (l : Launch) (D : va_G) (cA : Nat → ClassId) (h : Nat) (hr : Nat) (ht : Nat) (hs : Nat) (hl : Nat) (hi : Nat) (z : Int32) (ln : Nat → Int32) (o : Int32) (hz : rw_ok z 30) : ct_R l D cA yn_Tree_lengthOf cd_Tree_lengthOf 2 [.ref h, .int o] [(h, .inr (4, [.ref hr, .ref ht, .ref hs, .ref hl, .ref hi, .int z])), (hl, .inl (cA 0, 30, .inl ln))] (fun v_ => v_ = some (.int (f_Tree_lengthOf z ln o))) := by
  refine gw_metR (by decide) rfl (Nat.le_of_ble_eq_true rfl) ?_
  intro p_ e_ s_ m_ args_ below_ meth_ c_ S g_r g_k hK
  refine gw_eq (ws' := [(h, .inr (4, [.ref hr, .ref ht, .ref hs, .ref hl, .ref hi, .int z])), (hl, .inl (cA 0, 30, .inl ln))]) (lv' := [(0, .ref h), (1, .int o)]) (st' := []) (pc' := 0) rfl rfl rfl rfl ?_
  refine gw_aload_n S dc_Tree_lengthOf_0 rfl 0 rfl ?_
  refine gw_iload_n S dc_Tree_lengthOf_1 rfl 1 rfl ?_
  refine gw_callVR (As := [.int o]) (st := []) S hK (c_Tree_isObject l D cA h hr ht hs hl hi z o ) (cw_Tree_76 S.2.2.2.2 rfl rfl ⟨Nat.le_of_ble_eq_true rfl, Nat.le_of_ble_eq_true rfl⟩) [0] rfl (by decide) 0 rfl rfl rfl rfl rfl (Nat.le_of_ble_eq_true rfl) dc_Tree_lengthOf_2 ⟨Nat.le_of_ble_eq_true rfl, Nat.le_of_ble_eq_true rfl⟩ ?_
  rintro _ rfl
  refine gw_eq (ws' := [(h, .inr (4, [.ref hr, .ref ht, .ref hs, .ref hl, .ref hi, .int z])), (hl, .inl (cA 0, 30, .inl ln))]) (lv' := [(0, .ref h), (1, .int o)]) (st' := [.int (f_Tree_isObject z o)]) (pc' := 5) rfl rfl rfl rfl ?_
  refine gw_if_eq (tgt := 17) S dc_Tree_lengthOf_5 (by decide) (fun c_2 => ?_) (fun c_2 => ?_)
  · -- taken
    refine gw_iconst (v := 0) S dc_Tree_lengthOf_17 (by decide) ?_
    exact gw_iretR S g_r g_k  (by simp only [f_Tree_lengthOf, if_pos c_2]) dc_Tree_lengthOf_18
  · -- not
    refine gw_aload_n S dc_Tree_lengthOf_8 rfl 0 rfl ?_
    refine gw_get S hK.1 ic_Tree rfl 3 (by decide) (gw_lk S mw_172) 0 rfl rfl dc_Tree_lengthOf_9 ?_
    refine gw_iload_n S dc_Tree_lengthOf_12 rfl 1 rfl ?_
    refine gw_iald S hK.1 1 0 rfl rfl (tr_in hz c_2) dc_Tree_lengthOf_13 ?_
    refine gw_goto (tgt := 18) S dc_Tree_lengthOf_14 (by decide) ?_
    exact gw_iretR S g_r g_k  (by simp only [f_Tree_lengthOf, if_neg c_2]) dc_Tree_lengthOf_18
def f_Tree_innerOf (z : Int32) (nn : Nat → Int32) (o : Int32) : Int32 := if (f_Tree_isObject z o) = 0 then (-1) else (nn (Int32.toNatClampNeg o))
set_option maxRecDepth 100000 in
set_option maxHeartbeats 4000000 in
theorem c_Tree_innerOf (l : Launch) (D : va_G) (cA : Nat → ClassId) (h : Nat) (hr : Nat) (ht : Nat) (hs : Nat) (hl : Nat) (hi : Nat) (z : Int32) (nn : Nat → Int32) (o : Int32) (hz : rw_ok z 30) : ct_R l D cA yn_Tree_innerOf cd_Tree_innerOf 2 [.ref h, .int o] [(h, .inr (4, [.ref hr, .ref ht, .ref hs, .ref hl, .ref hi, .int z])), (hi, .inl (cA 0, 30, .inl nn))] (fun v_ => v_ = some (.int (f_Tree_innerOf z nn o))) := by
  refine gw_metR (by decide) rfl (Nat.le_of_ble_eq_true rfl) ?_
  intro p_ e_ s_ m_ args_ below_ meth_ c_ S g_r g_k hK
  refine gw_eq (ws' := [(h, .inr (4, [.ref hr, .ref ht, .ref hs, .ref hl, .ref hi, .int z])), (hi, .inl (cA 0, 30, .inl nn))]) (lv' := [(0, .ref h), (1, .int o)]) (st' := []) (pc' := 0) rfl rfl rfl rfl ?_
  refine gw_aload_n S dc_Tree_innerOf_0 rfl 0 rfl ?_
  refine gw_iload_n S dc_Tree_innerOf_1 rfl 1 rfl ?_
  refine gw_callVR (As := [.int o]) (st := []) S hK (c_Tree_isObject l D cA h hr ht hs hl hi z o ) (cw_Tree_76 S.2.2.2.2 rfl rfl ⟨Nat.le_of_ble_eq_true rfl, Nat.le_of_ble_eq_true rfl⟩) [0] rfl (by decide) 0 rfl rfl rfl rfl rfl (Nat.le_of_ble_eq_true rfl) dc_Tree_innerOf_2 ⟨Nat.le_of_ble_eq_true rfl, Nat.le_of_ble_eq_true rfl⟩ ?_
  rintro _ rfl
  refine gw_eq (ws' := [(h, .inr (4, [.ref hr, .ref ht, .ref hs, .ref hl, .ref hi, .int z])), (hi, .inl (cA 0, 30, .inl nn))]) (lv' := [(0, .ref h), (1, .int o)]) (st' := [.int (f_Tree_isObject z o)]) (pc' := 5) rfl rfl rfl rfl ?_
  refine gw_if_eq (tgt := 17) S dc_Tree_innerOf_5 (by decide) (fun c_2 => ?_) (fun c_2 => ?_)
  · -- taken
    refine gw_iconst (v := -1) S dc_Tree_innerOf_17 (by decide) ?_
    exact gw_iretR S g_r g_k  (by simp only [f_Tree_innerOf, if_pos c_2]) dc_Tree_innerOf_18
  · -- not
    refine gw_aload_n S dc_Tree_innerOf_8 rfl 0 rfl ?_
    refine gw_get S hK.1 ic_Tree rfl 4 (by decide) (gw_lk S mw_173) 0 rfl rfl dc_Tree_innerOf_9 ?_
    refine gw_iload_n S dc_Tree_innerOf_12 rfl 1 rfl ?_
    refine gw_iald S hK.1 1 0 rfl rfl (tr_in hz c_2) dc_Tree_innerOf_13 ?_
    refine gw_goto (tgt := 18) S dc_Tree_innerOf_14 (by decide) ?_
    exact gw_iretR S g_r g_k  (by simp only [f_Tree_innerOf, if_neg c_2]) dc_Tree_innerOf_18
def f_Tree_hasByte (z : Int32) (ln : Nat → Int32) (o : Int32) (i : Int32) : Int32 := if (f_Tree_isObject z o) = 0 then 0 else (if i < 0 then 0 else (if (ln (Int32.toNatClampNeg o)) ≤ i then 0 else (1)))
theorem b_Tree_hasByte (z : Int32) (ln : Nat → Int32) (o : Int32) (i : Int32) : f_Tree_hasByte z ln o i = 0 ∨ f_Tree_hasByte z ln o i = 1 := by
  unfold f_Tree_hasByte
  exact (bo_ite (Or.inl rfl) (bo_ite (Or.inl rfl) (bo_ite (Or.inl rfl) (Or.inr rfl))))
set_option maxRecDepth 100000 in
set_option maxHeartbeats 4000000 in
theorem c_Tree_hasByte (l : Launch) (D : va_G) (cA : Nat → ClassId) (h : Nat) (hr : Nat) (ht : Nat) (hs : Nat) (hl : Nat) (hi : Nat) (z : Int32) (ln : Nat → Int32) (o : Int32) (i : Int32) (hz : rw_ok z 30) : ct_R l D cA yn_Tree_hasByte cd_Tree_hasByte 2 [.ref h, .int o, .int i] [(h, .inr (4, [.ref hr, .ref ht, .ref hs, .ref hl, .ref hi, .int z])), (hl, .inl (cA 0, 30, .inl ln))] (fun v_ => v_ = some (.int (f_Tree_hasByte z ln o i))) := by
  refine gw_metR (by decide) rfl (Nat.le_of_ble_eq_true rfl) ?_
  intro p_ e_ s_ m_ args_ below_ meth_ c_ S g_r g_k hK
  refine gw_eq (ws' := [(h, .inr (4, [.ref hr, .ref ht, .ref hs, .ref hl, .ref hi, .int z])), (hl, .inl (cA 0, 30, .inl ln))]) (lv' := [(0, .ref h), (1, .int o), (2, .int i)]) (st' := []) (pc' := 0) rfl rfl rfl rfl ?_
  refine gw_aload_n S dc_Tree_hasByte_0 rfl 0 rfl ?_
  refine gw_iload_n S dc_Tree_hasByte_1 rfl 1 rfl ?_
  refine gw_callVR (As := [.int o]) (st := []) S hK (c_Tree_isObject l D cA h hr ht hs hl hi z o ) (cw_Tree_76 S.2.2.2.2 rfl rfl ⟨Nat.le_of_ble_eq_true rfl, Nat.le_of_ble_eq_true rfl⟩) [0] rfl (by decide) 0 rfl rfl rfl rfl rfl (Nat.le_of_ble_eq_true rfl) dc_Tree_hasByte_2 ⟨Nat.le_of_ble_eq_true rfl, Nat.le_of_ble_eq_true rfl⟩ ?_
  rintro _ rfl
  refine gw_eq (ws' := [(h, .inr (4, [.ref hr, .ref ht, .ref hs, .ref hl, .ref hi, .int z])), (hl, .inl (cA 0, 30, .inl ln))]) (lv' := [(0, .ref h), (1, .int o), (2, .int i)]) (st' := [.int (f_Tree_isObject z o)]) (pc' := 5) rfl rfl rfl rfl ?_
  refine gw_if_eq (tgt := 26) S dc_Tree_hasByte_5 (by decide) (fun c_2 => ?_) (fun c_2 => ?_)
  · -- taken
    refine gw_iconst (v := 0) S dc_Tree_hasByte_26 (by decide) ?_
    exact gw_zretR S g_r g_k rfl (by simp only [f_Tree_hasByte, if_pos c_2]) dc_Tree_hasByte_27
  · -- not
    refine gw_iload_n S dc_Tree_hasByte_8 rfl 2 rfl ?_
    refine gw_if_lt (tgt := 26) S dc_Tree_hasByte_9 (by decide) (fun c_3 => ?_) (fun c_3 => ?_)
    · -- taken
      refine gw_iconst (v := 0) S dc_Tree_hasByte_26 (by decide) ?_
      exact gw_zretR S g_r g_k rfl (by simp only [f_Tree_hasByte, if_neg c_2, if_pos c_3]) dc_Tree_hasByte_27
    · -- not
      refine gw_iload_n S dc_Tree_hasByte_12 rfl 2 rfl ?_
      refine gw_aload_n S dc_Tree_hasByte_13 rfl 0 rfl ?_
      refine gw_get S hK.1 ic_Tree rfl 3 (by decide) (gw_lk S mw_172) 0 rfl rfl dc_Tree_hasByte_14 ?_
      refine gw_iload_n S dc_Tree_hasByte_17 rfl 1 rfl ?_
      refine gw_iald S hK.1 1 0 rfl rfl (tr_in hz c_2) dc_Tree_hasByte_18 ?_
      refine gw_icmp_ge (tgt := 26) S dc_Tree_hasByte_19 (by decide) (fun c_4 => ?_) (fun c_4 => ?_)
      · -- taken
        refine gw_iconst (v := 0) S dc_Tree_hasByte_26 (by decide) ?_
        exact gw_zretR S g_r g_k rfl (by simp only [f_Tree_hasByte, if_neg c_2, if_neg c_3, if_pos c_4]) dc_Tree_hasByte_27
      · -- not
        refine gw_iconst (v := 1) S dc_Tree_hasByte_22 (by decide) ?_
        refine gw_goto (tgt := 27) S dc_Tree_hasByte_23 (by decide) ?_
        exact gw_zretR S g_r g_k rfl (by simp only [f_Tree_hasByte, if_neg c_2, if_neg c_3, if_neg c_4]) dc_Tree_hasByte_27
theorem tr_hb {z o i : Int32} {ln : Nat → Int32} (c : ¬ f_Tree_hasByte z ln o i = 0) : ¬ f_Tree_isObject z o = 0 := by
  intro h
  exact c (by unfold f_Tree_hasByte; rw [if_pos h])
def f_Tree_byteOf (z : Int32) (n : Int32) (f : Nat → Int32) (ss : Nat → Int32) (ln : Nat → Int32) (o : Int32) (i : Int32) : Int32 := if (f_Tree_hasByte z ln o i) = 0 then (-1) else (f_Row_at n f ((ss (Int32.toNatClampNeg o)) + i))
set_option maxRecDepth 100000 in
set_option maxHeartbeats 4000000 in
theorem c_Tree_byteOf (l : Launch) (D : va_G) (cA : Nat → ClassId) (h : Nat) (hr : Nat) (ht : Nat) (hs : Nat) (hl : Nat) (hi : Nat) (z : Int32) (hb : Nat) (n : Int32) (f : Nat → Int32) (ss : Nat → Int32) (ln : Nat → Int32) (o : Int32) (i : Int32) (hz : rw_ok z 30) (hN : rw_ok n 60) : ct_R l D cA yn_Tree_byteOf cd_Tree_byteOf 3 [.ref h, .int o, .int i] [(h, .inr (4, [.ref hr, .ref ht, .ref hs, .ref hl, .ref hi, .int z])), (hr, .inr (0, [.ref hb, .int n])), (hb, .inl (cA 0, 60, .inl f)), (hs, .inl (cA 0, 30, .inl ss)), (hl, .inl (cA 0, 30, .inl ln))] (fun v_ => v_ = some (.int (f_Tree_byteOf z n f ss ln o i))) := by
  refine gw_metR (by decide) rfl (Nat.le_of_ble_eq_true rfl) ?_
  intro p_ e_ s_ m_ args_ below_ meth_ c_ S g_r g_k hK
  refine gw_eq (ws' := [(h, .inr (4, [.ref hr, .ref ht, .ref hs, .ref hl, .ref hi, .int z])), (hr, .inr (0, [.ref hb, .int n])), (hb, .inl (cA 0, 60, .inl f)), (hs, .inl (cA 0, 30, .inl ss)), (hl, .inl (cA 0, 30, .inl ln))]) (lv' := [(0, .ref h), (1, .int o), (2, .int i)]) (st' := []) (pc' := 0) rfl rfl rfl rfl ?_
  refine gw_aload_n S dc_Tree_byteOf_0 rfl 0 rfl ?_
  refine gw_iload_n S dc_Tree_byteOf_1 rfl 1 rfl ?_
  refine gw_iload_n S dc_Tree_byteOf_2 rfl 2 rfl ?_
  refine gw_callVR (As := [.int o, .int i]) (st := []) S hK (c_Tree_hasByte l D cA h hr ht hs hl hi z ln o i (by assumption)) (cw_Tree_79 S.2.2.2.2 rfl rfl ⟨Nat.le_of_ble_eq_true rfl, Nat.le_of_ble_eq_true rfl⟩) [0, 4] rfl (by decide) 0 rfl rfl rfl rfl rfl (Nat.le_of_ble_eq_true rfl) dc_Tree_byteOf_3 ⟨Nat.le_of_ble_eq_true rfl, Nat.le_of_ble_eq_true rfl⟩ ?_
  rintro _ rfl
  refine gw_eq (ws' := [(h, .inr (4, [.ref hr, .ref ht, .ref hs, .ref hl, .ref hi, .int z])), (hr, .inr (0, [.ref hb, .int n])), (hb, .inl (cA 0, 60, .inl f)), (hs, .inl (cA 0, 30, .inl ss)), (hl, .inl (cA 0, 30, .inl ln))]) (lv' := [(0, .ref h), (1, .int o), (2, .int i)]) (st' := [.int (f_Tree_hasByte z ln o i)]) (pc' := 6) rfl rfl rfl rfl ?_
  refine gw_if_eq (tgt := 27) S dc_Tree_byteOf_6 (by decide) (fun c_2 => ?_) (fun c_2 => ?_)
  · -- taken
    refine gw_iconst (v := -1) S dc_Tree_byteOf_27 (by decide) ?_
    exact gw_iretR S g_r g_k  (by simp only [f_Tree_byteOf, if_pos c_2]) dc_Tree_byteOf_28
  · -- not
    refine gw_aload_n S dc_Tree_byteOf_9 rfl 0 rfl ?_
    refine gw_get S hK.1 ic_Tree rfl 0 (by decide) (gw_lk S mw_169) 0 rfl rfl dc_Tree_byteOf_10 ?_
    refine gw_aload_n S dc_Tree_byteOf_13 rfl 0 rfl ?_
    refine gw_get S hK.1 ic_Tree rfl 2 (by decide) (gw_lk S mw_171) 0 rfl rfl dc_Tree_byteOf_14 ?_
    refine gw_iload_n S dc_Tree_byteOf_17 rfl 1 rfl ?_
    refine gw_iald S hK.1 3 0 rfl rfl (tr_in hz (tr_hb c_2)) dc_Tree_byteOf_18 ?_
    refine gw_iload_n S dc_Tree_byteOf_19 rfl 2 rfl ?_
    refine gw_iadd S dc_Tree_byteOf_20 ?_
    refine gw_callVR (As := [.int ((ss (Int32.toNatClampNeg o)) + i)]) (st := []) S hK (c_Row_at l D cA hr hb n 60 f ((ss (Int32.toNatClampNeg o)) + i) (by assumption)) (cw_Tree_63 S.2.2.2.2 rfl rfl ⟨Nat.le_of_ble_eq_true rfl, Nat.le_of_ble_eq_true rfl⟩) [1, 2] rfl (by decide) 0 rfl rfl rfl rfl rfl (Nat.le_of_ble_eq_true rfl) dc_Tree_byteOf_21 ⟨Nat.le_of_ble_eq_true rfl, Nat.le_of_ble_eq_true rfl⟩ ?_
    rintro _ rfl
    refine gw_eq (ws' := [(h, .inr (4, [.ref hr, .ref ht, .ref hs, .ref hl, .ref hi, .int z])), (hr, .inr (0, [.ref hb, .int n])), (hb, .inl (cA 0, 60, .inl f)), (hs, .inl (cA 0, 30, .inl ss)), (hl, .inl (cA 0, 30, .inl ln))]) (lv' := [(0, .ref h), (1, .int o), (2, .int i)]) (st' := [.int (f_Row_at n f ((ss (Int32.toNatClampNeg o)) + i))]) (pc' := 24) rfl rfl rfl rfl ?_
    refine gw_goto (tgt := 28) S dc_Tree_byteOf_24 (by decide) ?_
    exact gw_iretR S g_r g_k  (by simp only [f_Tree_byteOf, if_neg c_2]) dc_Tree_byteOf_28
def f_Tree_tagOf (z : Int32) (n : Int32) (f : Nat → Int32) (ss : Nat → Int32) (ln : Nat → Int32) (o : Int32) (i : Int32) : Int32 := if (f_Tree_hasByte z ln o i) = 0 then (-1) else (f_Tag_read n f ((ss (Int32.toNatClampNeg o)) + i) ((ss (Int32.toNatClampNeg o)) + (ln (Int32.toNatClampNeg o))))
set_option maxRecDepth 100000 in
set_option maxHeartbeats 4000000 in
theorem c_Tree_tagOf (l : Launch) (D : va_G) (cA : Nat → ClassId) (h : Nat) (hr : Nat) (ht : Nat) (hs : Nat) (hl : Nat) (hi : Nat) (z : Int32) (hb : Nat) (n : Int32) (f : Nat → Int32) (ss : Nat → Int32) (ln : Nat → Int32) (o : Int32) (i : Int32) (hz : rw_ok z 30) (hN : rw_ok n 60) : ct_R l D cA yn_Tree_tagOf cd_Tree_tagOf 3 [.ref h, .int o, .int i] [(h, .inr (4, [.ref hr, .ref ht, .ref hs, .ref hl, .ref hi, .int z])), (hr, .inr (0, [.ref hb, .int n])), (hb, .inl (cA 0, 60, .inl f)), (hs, .inl (cA 0, 30, .inl ss)), (hl, .inl (cA 0, 30, .inl ln))] (fun v_ => v_ = some (.int (f_Tree_tagOf z n f ss ln o i))) := by
  refine gw_metR (by decide) rfl (Nat.le_of_ble_eq_true rfl) ?_
  intro p_ e_ s_ m_ args_ below_ meth_ c_ S g_r g_k hK
  refine gw_eq (ws' := [(h, .inr (4, [.ref hr, .ref ht, .ref hs, .ref hl, .ref hi, .int z])), (hr, .inr (0, [.ref hb, .int n])), (hb, .inl (cA 0, 60, .inl f)), (hs, .inl (cA 0, 30, .inl ss)), (hl, .inl (cA 0, 30, .inl ln))]) (lv' := [(0, .ref h), (1, .int o), (2, .int i)]) (st' := []) (pc' := 0) rfl rfl rfl rfl ?_
  refine gw_aload_n S dc_Tree_tagOf_0 rfl 0 rfl ?_
  refine gw_iload_n S dc_Tree_tagOf_1 rfl 1 rfl ?_
  refine gw_iload_n S dc_Tree_tagOf_2 rfl 2 rfl ?_
  refine gw_callVR (As := [.int o, .int i]) (st := []) S hK (c_Tree_hasByte l D cA h hr ht hs hl hi z ln o i (by assumption)) (cw_Tree_79 S.2.2.2.2 rfl rfl ⟨Nat.le_of_ble_eq_true rfl, Nat.le_of_ble_eq_true rfl⟩) [0, 4] rfl (by decide) 0 rfl rfl rfl rfl rfl (Nat.le_of_ble_eq_true rfl) dc_Tree_tagOf_3 ⟨Nat.le_of_ble_eq_true rfl, Nat.le_of_ble_eq_true rfl⟩ ?_
  rintro _ rfl
  refine gw_eq (ws' := [(h, .inr (4, [.ref hr, .ref ht, .ref hs, .ref hl, .ref hi, .int z])), (hr, .inr (0, [.ref hb, .int n])), (hb, .inl (cA 0, 60, .inl f)), (hs, .inl (cA 0, 30, .inl ss)), (hl, .inl (cA 0, 30, .inl ln))]) (lv' := [(0, .ref h), (1, .int o), (2, .int i)]) (st' := [.int (f_Tree_hasByte z ln o i)]) (pc' := 6) rfl rfl rfl rfl ?_
  refine gw_if_ne (tgt := 11) S dc_Tree_tagOf_6 (by decide) (fun c_2 => ?_) (fun c_2 => ?_)
  · -- taken
    refine gw_aload_n S dc_Tree_tagOf_11 rfl 0 rfl ?_
    refine gw_get S hK.1 ic_Tree rfl 0 (by decide) (gw_lk S mw_169) 0 rfl rfl dc_Tree_tagOf_12 ?_
    refine gw_aload_n S dc_Tree_tagOf_15 rfl 0 rfl ?_
    refine gw_get S hK.1 ic_Tree rfl 2 (by decide) (gw_lk S mw_171) 0 rfl rfl dc_Tree_tagOf_16 ?_
    refine gw_iload_n S dc_Tree_tagOf_19 rfl 1 rfl ?_
    refine gw_iald S hK.1 3 0 rfl rfl (tr_in hz (tr_hb c_2)) dc_Tree_tagOf_20 ?_
    refine gw_iload_n S dc_Tree_tagOf_21 rfl 2 rfl ?_
    refine gw_iadd S dc_Tree_tagOf_22 ?_
    refine gw_aload_n S dc_Tree_tagOf_23 rfl 0 rfl ?_
    refine gw_get S hK.1 ic_Tree rfl 2 (by decide) (gw_lk S mw_171) 0 rfl rfl dc_Tree_tagOf_24 ?_
    refine gw_iload_n S dc_Tree_tagOf_27 rfl 1 rfl ?_
    refine gw_iald S hK.1 3 0 rfl rfl (tr_in hz (tr_hb c_2)) dc_Tree_tagOf_28 ?_
    refine gw_aload_n S dc_Tree_tagOf_29 rfl 0 rfl ?_
    refine gw_get S hK.1 ic_Tree rfl 3 (by decide) (gw_lk S mw_172) 0 rfl rfl dc_Tree_tagOf_30 ?_
    refine gw_iload_n S dc_Tree_tagOf_33 rfl 1 rfl ?_
    refine gw_iald S hK.1 4 0 rfl rfl (tr_in hz (tr_hb c_2)) dc_Tree_tagOf_34 ?_
    refine gw_iadd S dc_Tree_tagOf_35 ?_
    refine gw_callSR (As := [.ref hr, .int ((ss (Int32.toNatClampNeg o)) + i), .int ((ss (Int32.toNatClampNeg o)) + (ln (Int32.toNatClampNeg o)))]) (st := []) S hK (c_Tag_read l D cA hr hb n 60 f ((ss (Int32.toNatClampNeg o)) + i) ((ss (Int32.toNatClampNeg o)) + (ln (Int32.toNatClampNeg o))) (by assumption)) (cw_Tree_49 S.2.2.2.2 rfl rfl ⟨Nat.le_of_ble_eq_true rfl, Nat.le_of_ble_eq_true rfl⟩) [1, 2] rfl (by decide) rfl rfl (Nat.le_of_ble_eq_true rfl) dc_Tree_tagOf_36 ⟨Nat.le_of_ble_eq_true rfl, Nat.le_of_ble_eq_true rfl⟩ ?_
    rintro _ rfl
    refine gw_eq (ws' := [(h, .inr (4, [.ref hr, .ref ht, .ref hs, .ref hl, .ref hi, .int z])), (hr, .inr (0, [.ref hb, .int n])), (hb, .inl (cA 0, 60, .inl f)), (hs, .inl (cA 0, 30, .inl ss)), (hl, .inl (cA 0, 30, .inl ln))]) (lv' := [(0, .ref h), (1, .int o), (2, .int i)]) (st' := [.int (f_Tag_read n f ((ss (Int32.toNatClampNeg o)) + i) ((ss (Int32.toNatClampNeg o)) + (ln (Int32.toNatClampNeg o))))]) (pc' := 39) rfl rfl rfl rfl ?_
    exact gw_iretR S g_r g_k  (by simp only [f_Tree_tagOf, if_neg c_2]) dc_Tree_tagOf_39
  · -- not
    refine gw_iconst (v := -1) S dc_Tree_tagOf_9 (by decide) ?_
    exact gw_iretR S g_r g_k  (by simp only [f_Tree_tagOf, if_pos c_2]) dc_Tree_tagOf_10
def f_Tree_pairOf (z : Int32) (n : Int32) (f : Nat → Int32) (ss : Nat → Int32) (ln : Nat → Int32) (o : Int32) : Int32 := if (f_Tree_hasByte z ln o 1) = 0 then 0 else ((256 * (f_Tree_byteOf z n f ss ln o 0)) + (f_Tree_byteOf z n f ss ln o 1))
set_option maxRecDepth 100000 in
set_option maxHeartbeats 4000000 in
theorem c_Tree_pairOf (l : Launch) (D : va_G) (cA : Nat → ClassId) (h : Nat) (hr : Nat) (ht : Nat) (hs : Nat) (hl : Nat) (hi : Nat) (z : Int32) (hb : Nat) (n : Int32) (f : Nat → Int32) (ss : Nat → Int32) (ln : Nat → Int32) (o : Int32) (hz : rw_ok z 30) (hN : rw_ok n 60) : ct_R l D cA yn_Tree_pairOf cd_Tree_pairOf 4 [.ref h, .int o] [(h, .inr (4, [.ref hr, .ref ht, .ref hs, .ref hl, .ref hi, .int z])), (hr, .inr (0, [.ref hb, .int n])), (hb, .inl (cA 0, 60, .inl f)), (hs, .inl (cA 0, 30, .inl ss)), (hl, .inl (cA 0, 30, .inl ln))] (fun v_ => v_ = some (.int (f_Tree_pairOf z n f ss ln o))) := by
  refine gw_metR (by decide) rfl (Nat.le_of_ble_eq_true rfl) ?_
  intro p_ e_ s_ m_ args_ below_ meth_ c_ S g_r g_k hK
  refine gw_eq (ws' := [(h, .inr (4, [.ref hr, .ref ht, .ref hs, .ref hl, .ref hi, .int z])), (hr, .inr (0, [.ref hb, .int n])), (hb, .inl (cA 0, 60, .inl f)), (hs, .inl (cA 0, 30, .inl ss)), (hl, .inl (cA 0, 30, .inl ln))]) (lv' := [(0, .ref h), (1, .int o)]) (st' := []) (pc' := 0) rfl rfl rfl rfl ?_
  refine gw_aload_n S dc_Tree_pairOf_0 rfl 0 rfl ?_
  refine gw_iload_n S dc_Tree_pairOf_1 rfl 1 rfl ?_
  refine gw_iconst (v := 1) S dc_Tree_pairOf_2 (by decide) ?_
  refine gw_callVR (As := [.int o, .int 1]) (st := []) S hK (c_Tree_hasByte l D cA h hr ht hs hl hi z ln o 1 (by assumption)) (cw_Tree_79 S.2.2.2.2 rfl rfl ⟨Nat.le_of_ble_eq_true rfl, Nat.le_of_ble_eq_true rfl⟩) [0, 4] rfl (by decide) 0 rfl rfl rfl rfl rfl (Nat.le_of_ble_eq_true rfl) dc_Tree_pairOf_3 ⟨Nat.le_of_ble_eq_true rfl, Nat.le_of_ble_eq_true rfl⟩ ?_
  rintro _ rfl
  refine gw_eq (ws' := [(h, .inr (4, [.ref hr, .ref ht, .ref hs, .ref hl, .ref hi, .int z])), (hr, .inr (0, [.ref hb, .int n])), (hb, .inl (cA 0, 60, .inl f)), (hs, .inl (cA 0, 30, .inl ss)), (hl, .inl (cA 0, 30, .inl ln))]) (lv' := [(0, .ref h), (1, .int o)]) (st' := [.int (f_Tree_hasByte z ln o 1)]) (pc' := 6) rfl rfl rfl rfl ?_
  refine gw_if_eq (tgt := 29) S dc_Tree_pairOf_6 (by decide) (fun c_2 => ?_) (fun c_2 => ?_)
  · -- taken
    refine gw_iconst (v := 0) S dc_Tree_pairOf_29 (by decide) ?_
    exact gw_iretR S g_r g_k  (by simp only [f_Tree_pairOf, if_pos c_2]) dc_Tree_pairOf_30
  · -- not
    refine gw_sipush (v := 256) S dc_Tree_pairOf_9 (by decide) ?_
    refine gw_aload_n S dc_Tree_pairOf_12 rfl 0 rfl ?_
    refine gw_iload_n S dc_Tree_pairOf_13 rfl 1 rfl ?_
    refine gw_iconst (v := 0) S dc_Tree_pairOf_14 (by decide) ?_
    refine gw_callVR (As := [.int o, .int 0]) (st := [.int 256]) S hK (c_Tree_byteOf l D cA h hr ht hs hl hi z hb n f ss ln o 0 (by assumption) (by assumption)) (cw_Tree_83 S.2.2.2.2 rfl rfl ⟨Nat.le_of_ble_eq_true rfl, Nat.le_of_ble_eq_true rfl⟩) [0, 1, 2, 3, 4] rfl (by decide) 0 rfl rfl rfl rfl rfl (Nat.le_of_ble_eq_true rfl) dc_Tree_pairOf_15 ⟨Nat.le_of_ble_eq_true rfl, Nat.le_of_ble_eq_true rfl⟩ ?_
    rintro _ rfl
    refine gw_eq (ws' := [(h, .inr (4, [.ref hr, .ref ht, .ref hs, .ref hl, .ref hi, .int z])), (hr, .inr (0, [.ref hb, .int n])), (hb, .inl (cA 0, 60, .inl f)), (hs, .inl (cA 0, 30, .inl ss)), (hl, .inl (cA 0, 30, .inl ln))]) (lv' := [(0, .ref h), (1, .int o)]) (st' := [.int (f_Tree_byteOf z n f ss ln o 0), .int 256]) (pc' := 18) rfl rfl rfl rfl ?_
    refine gw_imul S dc_Tree_pairOf_18 ?_
    refine gw_aload_n S dc_Tree_pairOf_19 rfl 0 rfl ?_
    refine gw_iload_n S dc_Tree_pairOf_20 rfl 1 rfl ?_
    refine gw_iconst (v := 1) S dc_Tree_pairOf_21 (by decide) ?_
    refine gw_callVR (As := [.int o, .int 1]) (st := [.int (256 * (f_Tree_byteOf z n f ss ln o 0))]) S hK (c_Tree_byteOf l D cA h hr ht hs hl hi z hb n f ss ln o 1 (by assumption) (by assumption)) (cw_Tree_83 S.2.2.2.2 rfl rfl ⟨Nat.le_of_ble_eq_true rfl, Nat.le_of_ble_eq_true rfl⟩) [0, 1, 2, 3, 4] rfl (by decide) 0 rfl rfl rfl rfl rfl (Nat.le_of_ble_eq_true rfl) dc_Tree_pairOf_22 ⟨Nat.le_of_ble_eq_true rfl, Nat.le_of_ble_eq_true rfl⟩ ?_
    rintro _ rfl
    refine gw_eq (ws' := [(h, .inr (4, [.ref hr, .ref ht, .ref hs, .ref hl, .ref hi, .int z])), (hr, .inr (0, [.ref hb, .int n])), (hb, .inl (cA 0, 60, .inl f)), (hs, .inl (cA 0, 30, .inl ss)), (hl, .inl (cA 0, 30, .inl ln))]) (lv' := [(0, .ref h), (1, .int o)]) (st' := [.int (f_Tree_byteOf z n f ss ln o 1), .int (256 * (f_Tree_byteOf z n f ss ln o 0))]) (pc' := 25) rfl rfl rfl rfl ?_
    refine gw_iadd S dc_Tree_pairOf_25 ?_
    refine gw_goto (tgt := 30) S dc_Tree_pairOf_26 (by decide) ?_
    exact gw_iretR S g_r g_k  (by simp only [f_Tree_pairOf, if_neg c_2]) dc_Tree_pairOf_30
def f_Tree_readLength (n : Int32) (f : Nat → Int32) (i : Int32) (en : Int32) : Int32 := if (f_Row_atBefore n f i en) = 129 then (f_Row_atBefore n f (i + 1) en) else (if 127 < (f_Row_atBefore n f i en) then (-1) else (f_Row_atBefore n f i en))
set_option maxRecDepth 100000 in
set_option maxHeartbeats 4000000 in
theorem c_Tree_readLength (l : Launch) (D : va_G) (cA : Nat → ClassId) (h : Nat) (hr : Nat) (ht : Nat) (hs : Nat) (hl : Nat) (hi : Nat) (z : Int32) (hb : Nat) (n : Int32) (f : Nat → Int32) (i : Int32) (en : Int32) (hN : rw_ok n 60) : ct_R l D cA yn_Tree_readLength cd_Tree_readLength 2 [.ref h, .int i, .int en] [(h, .inr (4, [.ref hr, .ref ht, .ref hs, .ref hl, .ref hi, .int z])), (hr, .inr (0, [.ref hb, .int n])), (hb, .inl (cA 0, 60, .inl f))] (fun v_ => v_ = some (.int (f_Tree_readLength n f i en))) := by
  refine gw_metR (by decide) rfl (Nat.le_of_ble_eq_true rfl) ?_
  intro p_ e_ s_ m_ args_ below_ meth_ c_ S g_r g_k hK
  refine gw_eq (ws' := [(h, .inr (4, [.ref hr, .ref ht, .ref hs, .ref hl, .ref hi, .int z])), (hr, .inr (0, [.ref hb, .int n])), (hb, .inl (cA 0, 60, .inl f))]) (lv' := [(0, .ref h), (1, .int i), (2, .int en)]) (st' := []) (pc' := 0) rfl rfl rfl rfl ?_
  refine gw_aload_n S dc_Tree_readLength_0 rfl 0 rfl ?_
  refine gw_get S hK.1 ic_Tree rfl 0 (by decide) (gw_lk S mw_169) 0 rfl rfl dc_Tree_readLength_1 ?_
  refine gw_iload_n S dc_Tree_readLength_4 rfl 1 rfl ?_
  refine gw_iload_n S dc_Tree_readLength_5 rfl 2 rfl ?_
  refine gw_callVR (As := [.int i, .int en]) (st := []) S hK (c_Row_atBefore l D cA hr hb n 60 f i en (by assumption)) (cw_Tree_73 S.2.2.2.2 rfl rfl ⟨Nat.le_of_ble_eq_true rfl, Nat.le_of_ble_eq_true rfl⟩) [1, 2] rfl (by decide) 0 rfl rfl rfl rfl rfl (Nat.le_of_ble_eq_true rfl) dc_Tree_readLength_6 ⟨Nat.le_of_ble_eq_true rfl, Nat.le_of_ble_eq_true rfl⟩ ?_
  rintro _ rfl
  refine gw_eq (ws' := [(h, .inr (4, [.ref hr, .ref ht, .ref hs, .ref hl, .ref hi, .int z])), (hr, .inr (0, [.ref hb, .int n])), (hb, .inl (cA 0, 60, .inl f))]) (lv' := [(0, .ref h), (1, .int i), (2, .int en)]) (st' := [.int (f_Row_atBefore n f i en)]) (pc' := 9) rfl rfl rfl rfl ?_
  refine gw_istore_n (lv' := [(3, .int (f_Row_atBefore n f i en)), (0, .ref h), (1, .int i), (2, .int en)]) S dc_Tree_readLength_9 rfl (by decide) rfl ?_
  refine gw_iload_n S dc_Tree_readLength_10 rfl 0 rfl ?_
  refine gw_sipush (v := 129) S dc_Tree_readLength_11 (by decide) ?_
  refine gw_icmp_ne (tgt := 29) S dc_Tree_readLength_14 (by decide) (fun c_2 => ?_) (fun c_2 => ?_)
  · -- taken
    refine gw_iload_n S dc_Tree_readLength_29 rfl 0 rfl ?_
    refine gw_bipush (v := 127) S dc_Tree_readLength_30 (by decide) ?_
    refine gw_icmp_gt (tgt := 39) S dc_Tree_readLength_32 (by decide) (fun c_3 => ?_) (fun c_3 => ?_)
    · -- taken
      refine gw_iconst (v := -1) S dc_Tree_readLength_39 (by decide) ?_
      exact gw_iretR S g_r g_k  (by simp only [f_Tree_readLength, if_neg c_2, if_pos c_3]) dc_Tree_readLength_40
    · -- not
      refine gw_iload_n S dc_Tree_readLength_35 rfl 0 rfl ?_
      refine gw_goto (tgt := 40) S dc_Tree_readLength_36 (by decide) ?_
      exact gw_iretR S g_r g_k  (by simp only [f_Tree_readLength, if_neg c_2, if_neg c_3]) dc_Tree_readLength_40
  · -- not
    refine gw_aload_n S dc_Tree_readLength_17 rfl 1 rfl ?_
    refine gw_get S hK.1 ic_Tree rfl 0 (by decide) (gw_lk S mw_169) 0 rfl rfl dc_Tree_readLength_18 ?_
    refine gw_iload_n S dc_Tree_readLength_21 rfl 2 rfl ?_
    refine gw_iconst (v := 1) S dc_Tree_readLength_22 (by decide) ?_
    refine gw_iadd S dc_Tree_readLength_23 ?_
    refine gw_iload_n S dc_Tree_readLength_24 rfl 3 rfl ?_
    refine gw_callVR (As := [.int (i + 1), .int en]) (st := []) S hK (c_Row_atBefore l D cA hr hb n 60 f (i + 1) en (by assumption)) (cw_Tree_73 S.2.2.2.2 rfl rfl ⟨Nat.le_of_ble_eq_true rfl, Nat.le_of_ble_eq_true rfl⟩) [1, 2] rfl (by decide) 0 rfl rfl rfl rfl rfl (Nat.le_of_ble_eq_true rfl) dc_Tree_readLength_25 ⟨Nat.le_of_ble_eq_true rfl, Nat.le_of_ble_eq_true rfl⟩ ?_
    rintro _ rfl
    refine gw_eq (ws' := [(h, .inr (4, [.ref hr, .ref ht, .ref hs, .ref hl, .ref hi, .int z])), (hr, .inr (0, [.ref hb, .int n])), (hb, .inl (cA 0, 60, .inl f))]) (lv' := [(3, .int (f_Row_atBefore n f i en)), (0, .ref h), (1, .int i), (2, .int en)]) (st' := [.int (f_Row_atBefore n f (i + 1) en)]) (pc' := 28) rfl rfl rfl rfl ?_
    exact gw_iretR S g_r g_k  (by simp only [f_Tree_readLength, if_pos c_2]) dc_Tree_readLength_28
def f_Tree_keep (z : Int32) : Int32 := if z < 30 then ((z + 1) - 1) else (-1)
def f_Tree_keep_size (z : Int32) : Int32 := if z < 30 then (z + 1) else (z)
def f_Tree_keep_1 (z : Int32) (tg : Nat → Int32) (t : Int32) : Nat → Int32 := if z < 30 then (upd tg (Int32.toNatClampNeg z) t) else (tg)
def f_Tree_keep_2 (z : Int32) (ss : Nat → Int32) (s0 : Int32) : Nat → Int32 := if z < 30 then (upd ss (Int32.toNatClampNeg z) s0) else (ss)
def f_Tree_keep_3 (z : Int32) (ln : Nat → Int32) (l0 : Int32) : Nat → Int32 := if z < 30 then (upd ln (Int32.toNatClampNeg z) l0) else (ln)
def f_Tree_keep_4 (z : Int32) (nn : Nat → Int32) (ou : Int32) : Nat → Int32 := if z < 30 then (if (f_Tree_isObject z ou) = 0 then (upd nn (Int32.toNatClampNeg z) 0) else (upd (upd nn (Int32.toNatClampNeg z) 0) (Int32.toNatClampNeg ou) (((upd nn (Int32.toNatClampNeg z) 0) (Int32.toNatClampNeg ou)) + 1))) else (nn)
set_option maxRecDepth 100000 in
set_option maxHeartbeats 4000000 in
theorem c_Tree_keep (l : Launch) (D : va_G) (cA : Nat → ClassId) (sz : Nat) (h : Nat) (hr : Nat) (ht : Nat) (hs : Nat) (hl : Nat) (hi : Nat) (z : Int32) (tg : Nat → Int32) (ss : Nat → Int32) (ln : Nat → Int32) (nn : Nat → Int32) (t : Int32) (s0 : Int32) (l0 : Int32) (ou : Int32) (hz : rw_ok z 30) : ct_M l D cA yn_Tree_keep cd_Tree_keep 2 0 0 sz [.ref h, .int t, .int s0, .int l0, .int ou] [(h, .inr (4, [.ref hr, .ref ht, .ref hs, .ref hl, .ref hi, .int z])), (ht, .inl (cA 0, 30, .inl tg)), (hs, .inl (cA 0, 30, .inl ss)), (hl, .inl (cA 0, 30, .inl ln)), (hi, .inl (cA 0, 30, .inl nn))] (fun v_ w_ => v_ = some (.int (f_Tree_keep z)) ∧ w_ = [(h, .inr (4, [.ref hr, .ref ht, .ref hs, .ref hl, .ref hi, .int (f_Tree_keep_size z)])), (ht, .inl (cA 0, 30, .inl (f_Tree_keep_1 z tg t))), (hs, .inl (cA 0, 30, .inl (f_Tree_keep_2 z ss s0))), (hl, .inl (cA 0, 30, .inl (f_Tree_keep_3 z ln l0))), (hi, .inl (cA 0, 30, .inl (f_Tree_keep_4 z nn ou)))]) := by
  refine gw_met (by decide) rfl (Nat.le_of_ble_eq_true rfl) ?_
  intro p_ e_ s_ m_ args_ below_ meth_ c_ A_ S g_r g_k g_n hK hA
  refine gw_eq (ws' := [(h, .inr (4, [.ref hr, .ref ht, .ref hs, .ref hl, .ref hi, .int z])), (ht, .inl (cA 0, 30, .inl tg)), (hs, .inl (cA 0, 30, .inl ss)), (hl, .inl (cA 0, 30, .inl ln)), (hi, .inl (cA 0, 30, .inl nn))]) (lv' := [(0, .ref h), (1, .int t), (2, .int s0), (3, .int l0), (4, .int ou)]) (st' := []) (pc' := 0) rfl rfl rfl rfl ?_
  refine gw_aload_n S dc_Tree_keep_0 rfl 0 rfl ?_
  refine gw_get S hK.1 ic_Tree rfl 5 (by decide) (gw_lk S mw_174) 0 rfl rfl dc_Tree_keep_1 ?_
  refine gw_bipush (v := 30) S dc_Tree_keep_4 (by decide) ?_
  refine gw_icmp_lt (tgt := 11) S dc_Tree_keep_6 (by decide) (fun c_1 => ?_) (fun c_1 => ?_)
  · -- taken
    refine gw_aload_n S dc_Tree_keep_11 rfl 0 rfl ?_
    refine gw_get S hK.1 ic_Tree rfl 1 (by decide) (gw_lk S mw_170) 0 rfl rfl dc_Tree_keep_12 ?_
    refine gw_aload_n S dc_Tree_keep_15 rfl 0 rfl ?_
    refine gw_get S hK.1 ic_Tree rfl 5 (by decide) (gw_lk S mw_174) 0 rfl rfl dc_Tree_keep_16 ?_
    refine gw_iload_n S dc_Tree_keep_19 rfl 1 rfl ?_
    refine gw_iast (ws' := [(h, .inr (4, [.ref hr, .ref ht, .ref hs, .ref hl, .ref hi, .int z])), (ht, .inl (cA 0, 30, .inl (upd tg (Int32.toNatClampNeg z) t))), (hs, .inl (cA 0, 30, .inl ss)), (hl, .inl (cA 0, 30, .inl ln)), (hi, .inl (cA 0, 30, .inl nn))]) S hK.1 1 0 rfl rfl (rw_add (N := 30) hz c_1) rfl dc_Tree_keep_20 ?_
    refine gw_aload_n S dc_Tree_keep_21 rfl 0 rfl ?_
    refine gw_get S hK.1 ic_Tree rfl 2 (by decide) (gw_lk S mw_171) 0 rfl rfl dc_Tree_keep_22 ?_
    refine gw_aload_n S dc_Tree_keep_25 rfl 0 rfl ?_
    refine gw_get S hK.1 ic_Tree rfl 5 (by decide) (gw_lk S mw_174) 0 rfl rfl dc_Tree_keep_26 ?_
    refine gw_iload_n S dc_Tree_keep_29 rfl 2 rfl ?_
    refine gw_iast (ws' := [(h, .inr (4, [.ref hr, .ref ht, .ref hs, .ref hl, .ref hi, .int z])), (ht, .inl (cA 0, 30, .inl (upd tg (Int32.toNatClampNeg z) t))), (hs, .inl (cA 0, 30, .inl (upd ss (Int32.toNatClampNeg z) s0))), (hl, .inl (cA 0, 30, .inl ln)), (hi, .inl (cA 0, 30, .inl nn))]) S hK.1 2 0 rfl rfl (rw_add (N := 30) hz c_1) rfl dc_Tree_keep_30 ?_
    refine gw_aload_n S dc_Tree_keep_31 rfl 0 rfl ?_
    refine gw_get S hK.1 ic_Tree rfl 3 (by decide) (gw_lk S mw_172) 0 rfl rfl dc_Tree_keep_32 ?_
    refine gw_aload_n S dc_Tree_keep_35 rfl 0 rfl ?_
    refine gw_get S hK.1 ic_Tree rfl 5 (by decide) (gw_lk S mw_174) 0 rfl rfl dc_Tree_keep_36 ?_
    refine gw_iload_n S dc_Tree_keep_39 rfl 3 rfl ?_
    refine gw_iast (ws' := [(h, .inr (4, [.ref hr, .ref ht, .ref hs, .ref hl, .ref hi, .int z])), (ht, .inl (cA 0, 30, .inl (upd tg (Int32.toNatClampNeg z) t))), (hs, .inl (cA 0, 30, .inl (upd ss (Int32.toNatClampNeg z) s0))), (hl, .inl (cA 0, 30, .inl (upd ln (Int32.toNatClampNeg z) l0))), (hi, .inl (cA 0, 30, .inl nn))]) S hK.1 3 0 rfl rfl (rw_add (N := 30) hz c_1) rfl dc_Tree_keep_40 ?_
    refine gw_aload_n S dc_Tree_keep_41 rfl 0 rfl ?_
    refine gw_get S hK.1 ic_Tree rfl 4 (by decide) (gw_lk S mw_173) 0 rfl rfl dc_Tree_keep_42 ?_
    refine gw_aload_n S dc_Tree_keep_45 rfl 0 rfl ?_
    refine gw_get S hK.1 ic_Tree rfl 5 (by decide) (gw_lk S mw_174) 0 rfl rfl dc_Tree_keep_46 ?_
    refine gw_iconst (v := 0) S dc_Tree_keep_49 (by decide) ?_
    refine gw_iast (ws' := [(h, .inr (4, [.ref hr, .ref ht, .ref hs, .ref hl, .ref hi, .int z])), (ht, .inl (cA 0, 30, .inl (upd tg (Int32.toNatClampNeg z) t))), (hs, .inl (cA 0, 30, .inl (upd ss (Int32.toNatClampNeg z) s0))), (hl, .inl (cA 0, 30, .inl (upd ln (Int32.toNatClampNeg z) l0))), (hi, .inl (cA 0, 30, .inl (upd nn (Int32.toNatClampNeg z) 0)))]) S hK.1 4 0 rfl rfl (rw_add (N := 30) hz c_1) rfl dc_Tree_keep_50 ?_
    refine gw_aload_n S dc_Tree_keep_51 rfl 0 rfl ?_
    refine gw_iload S dc_Tree_keep_52 4 rfl ?_
    refine gw_callVR (As := [.int ou]) (st := []) S hK (c_Tree_isObject l D cA h hr ht hs hl hi z ou ) (cw_Tree_76 S.2.2.2.2 rfl rfl ⟨Nat.le_of_ble_eq_true rfl, Nat.le_of_ble_eq_true rfl⟩) [0] rfl (by decide) 0 rfl rfl rfl rfl rfl (Nat.le_of_ble_eq_true rfl) dc_Tree_keep_54 ⟨Nat.le_of_ble_eq_true rfl, Nat.le_of_ble_eq_true rfl⟩ ?_
    rintro _ rfl
    refine gw_eq (ws' := [(h, .inr (4, [.ref hr, .ref ht, .ref hs, .ref hl, .ref hi, .int z])), (ht, .inl (cA 0, 30, .inl (upd tg (Int32.toNatClampNeg z) t))), (hs, .inl (cA 0, 30, .inl (upd ss (Int32.toNatClampNeg z) s0))), (hl, .inl (cA 0, 30, .inl (upd ln (Int32.toNatClampNeg z) l0))), (hi, .inl (cA 0, 30, .inl (upd nn (Int32.toNatClampNeg z) 0)))]) (lv' := [(0, .ref h), (1, .int t), (2, .int s0), (3, .int l0), (4, .int ou)]) (st' := [.int (f_Tree_isObject z ou)]) (pc' := 57) rfl rfl rfl rfl ?_
    refine gw_if_eq (tgt := 71) S dc_Tree_keep_57 (by decide) (fun c_3 => ?_) (fun c_3 => ?_)
    · -- taken
      refine gw_aload_n S dc_Tree_keep_71 rfl 0 rfl ?_
      refine gw_dup S dc_Tree_keep_72 rfl ?_
      refine gw_get S hK.1 ic_Tree rfl 5 (by decide) (gw_lk S mw_174) 0 rfl rfl dc_Tree_keep_73 ?_
      refine gw_iconst (v := 1) S dc_Tree_keep_76 (by decide) ?_
      refine gw_iadd S dc_Tree_keep_77 ?_
      refine gw_put (ws' := [(h, .inr (4, [.ref hr, .ref ht, .ref hs, .ref hl, .ref hi, .int (z + 1)])), (ht, .inl (cA 0, 30, .inl (upd tg (Int32.toNatClampNeg z) t))), (hs, .inl (cA 0, 30, .inl (upd ss (Int32.toNatClampNeg z) s0))), (hl, .inl (cA 0, 30, .inl (upd ln (Int32.toNatClampNeg z) l0))), (hi, .inl (cA 0, 30, .inl (upd nn (Int32.toNatClampNeg z) 0)))]) (ty := .int) S hK.1 ic_Tree rfl 5 (by decide) ty_Tree to_Tree nm_Tree (gw_lk S mw_174) 0 rfl rfl (by decide +kernel) rfl rfl (Nat.le_of_ble_eq_true rfl) rfl dc_Tree_keep_78 ?_
      refine gw_aload_n S dc_Tree_keep_81 rfl 0 rfl ?_
      refine gw_get S hK.1 ic_Tree rfl 5 (by decide) (gw_lk S mw_174) 0 rfl rfl dc_Tree_keep_82 ?_
      refine gw_iconst (v := 1) S dc_Tree_keep_85 (by decide) ?_
      refine gw_isub S dc_Tree_keep_86 ?_
      exact gw_iret (w := [(h, .inr (4, [.ref hr, .ref ht, .ref hs, .ref hl, .ref hi, .int (z + 1)])), (ht, .inl (cA 0, 30, .inl (upd tg (Int32.toNatClampNeg z) t))), (hs, .inl (cA 0, 30, .inl (upd ss (Int32.toNatClampNeg z) s0))), (hl, .inl (cA 0, 30, .inl (upd ln (Int32.toNatClampNeg z) l0))), (hi, .inl (cA 0, 30, .inl (upd nn (Int32.toNatClampNeg z) 0)))]) S g_r g_k  [0, 1, 2, 3, 4] rfl (by decide) ⟨(by simp only [f_Tree_keep, f_Tree_keep_size, f_Tree_keep_1, f_Tree_keep_2, f_Tree_keep_3, f_Tree_keep_4, if_pos c_1, if_pos c_3]), (by simp only [f_Tree_keep, f_Tree_keep_size, f_Tree_keep_1, f_Tree_keep_2, f_Tree_keep_3, f_Tree_keep_4, if_pos c_1, if_pos c_3])⟩ dc_Tree_keep_87
    · -- not
      refine gw_aload_n S dc_Tree_keep_60 rfl 0 rfl ?_
      refine gw_get S hK.1 ic_Tree rfl 4 (by decide) (gw_lk S mw_173) 0 rfl rfl dc_Tree_keep_61 ?_
      refine gw_iload S dc_Tree_keep_64 4 rfl ?_
      refine gw_dup2_11 S dc_Tree_keep_66 rfl rfl ?_
      refine gw_iald S hK.1 4 0 rfl rfl (tr_in hz c_3) dc_Tree_keep_67 ?_
      refine gw_iconst (v := 1) S dc_Tree_keep_68 (by decide) ?_
      refine gw_iadd S dc_Tree_keep_69 ?_
      refine gw_iast (ws' := [(h, .inr (4, [.ref hr, .ref ht, .ref hs, .ref hl, .ref hi, .int z])), (ht, .inl (cA 0, 30, .inl (upd tg (Int32.toNatClampNeg z) t))), (hs, .inl (cA 0, 30, .inl (upd ss (Int32.toNatClampNeg z) s0))), (hl, .inl (cA 0, 30, .inl (upd ln (Int32.toNatClampNeg z) l0))), (hi, .inl (cA 0, 30, .inl (upd (upd nn (Int32.toNatClampNeg z) 0) (Int32.toNatClampNeg ou) (((upd nn (Int32.toNatClampNeg z) 0) (Int32.toNatClampNeg ou)) + 1))))]) S hK.1 4 0 rfl rfl (tr_in hz c_3) rfl dc_Tree_keep_70 ?_
      refine gw_aload_n S dc_Tree_keep_71 rfl 0 rfl ?_
      refine gw_dup S dc_Tree_keep_72 rfl ?_
      refine gw_get S hK.1 ic_Tree rfl 5 (by decide) (gw_lk S mw_174) 0 rfl rfl dc_Tree_keep_73 ?_
      refine gw_iconst (v := 1) S dc_Tree_keep_76 (by decide) ?_
      refine gw_iadd S dc_Tree_keep_77 ?_
      refine gw_put (ws' := [(h, .inr (4, [.ref hr, .ref ht, .ref hs, .ref hl, .ref hi, .int (z + 1)])), (ht, .inl (cA 0, 30, .inl (upd tg (Int32.toNatClampNeg z) t))), (hs, .inl (cA 0, 30, .inl (upd ss (Int32.toNatClampNeg z) s0))), (hl, .inl (cA 0, 30, .inl (upd ln (Int32.toNatClampNeg z) l0))), (hi, .inl (cA 0, 30, .inl (upd (upd nn (Int32.toNatClampNeg z) 0) (Int32.toNatClampNeg ou) (((upd nn (Int32.toNatClampNeg z) 0) (Int32.toNatClampNeg ou)) + 1))))]) (ty := .int) S hK.1 ic_Tree rfl 5 (by decide) ty_Tree to_Tree nm_Tree (gw_lk S mw_174) 0 rfl rfl (by decide +kernel) rfl rfl (Nat.le_of_ble_eq_true rfl) rfl dc_Tree_keep_78 ?_
      refine gw_aload_n S dc_Tree_keep_81 rfl 0 rfl ?_
      refine gw_get S hK.1 ic_Tree rfl 5 (by decide) (gw_lk S mw_174) 0 rfl rfl dc_Tree_keep_82 ?_
      refine gw_iconst (v := 1) S dc_Tree_keep_85 (by decide) ?_
      refine gw_isub S dc_Tree_keep_86 ?_
      exact gw_iret (w := [(h, .inr (4, [.ref hr, .ref ht, .ref hs, .ref hl, .ref hi, .int (z + 1)])), (ht, .inl (cA 0, 30, .inl (upd tg (Int32.toNatClampNeg z) t))), (hs, .inl (cA 0, 30, .inl (upd ss (Int32.toNatClampNeg z) s0))), (hl, .inl (cA 0, 30, .inl (upd ln (Int32.toNatClampNeg z) l0))), (hi, .inl (cA 0, 30, .inl (upd (upd nn (Int32.toNatClampNeg z) 0) (Int32.toNatClampNeg ou) (((upd nn (Int32.toNatClampNeg z) 0) (Int32.toNatClampNeg ou)) + 1))))]) S g_r g_k  [0, 1, 2, 3, 4] rfl (by decide) ⟨(by simp only [f_Tree_keep, f_Tree_keep_size, f_Tree_keep_1, f_Tree_keep_2, f_Tree_keep_3, f_Tree_keep_4, if_pos c_1, if_neg c_3]), (by simp only [f_Tree_keep, f_Tree_keep_size, f_Tree_keep_1, f_Tree_keep_2, f_Tree_keep_3, f_Tree_keep_4, if_pos c_1, if_neg c_3])⟩ dc_Tree_keep_87
  · -- not
    refine gw_iconst (v := -1) S dc_Tree_keep_9 (by decide) ?_
    exact gw_iret (w := [(h, .inr (4, [.ref hr, .ref ht, .ref hs, .ref hl, .ref hi, .int z])), (ht, .inl (cA 0, 30, .inl tg)), (hs, .inl (cA 0, 30, .inl ss)), (hl, .inl (cA 0, 30, .inl ln)), (hi, .inl (cA 0, 30, .inl nn))]) S g_r g_k  [0, 1, 2, 3, 4] rfl (by decide) ⟨(by simp only [f_Tree_keep, f_Tree_keep_size, f_Tree_keep_1, f_Tree_keep_2, f_Tree_keep_3, f_Tree_keep_4, if_neg c_1]), (by simp only [f_Tree_keep, f_Tree_keep_size, f_Tree_keep_1, f_Tree_keep_2, f_Tree_keep_3, f_Tree_keep_4, if_neg c_1])⟩ dc_Tree_keep_10
def f_Term_set (w : Int32) (x : Int32) : Int32 := if w = 1 then (if (f_PC_isWithin w 0 6) = 0 then 0 else (if (f_PC_isWithin x 0 65535) = 0 then 0 else (1))) else (if w < 4 then (if (f_PC_isWithin w 0 6) = 0 then 0 else (if (f_PC_isWithin x 0 999999) = 0 then 0 else (1))) else (if (f_PC_isWithin w 0 6) = 0 then 0 else (if (f_PC_isWithin x 0 65535) = 0 then 0 else (1))))
def f_Term_set_1 (g : Nat → Int32) (w : Int32) (x : Int32) : Nat → Int32 := if w = 1 then (if (f_PC_isWithin w 0 6) = 0 then g else (if (f_PC_isWithin x 0 65535) = 0 then g else (upd g (Int32.toNatClampNeg w) x))) else (if w < 4 then (if (f_PC_isWithin w 0 6) = 0 then g else (if (f_PC_isWithin x 0 999999) = 0 then g else (upd g (Int32.toNatClampNeg w) x))) else (if (f_PC_isWithin w 0 6) = 0 then g else (if (f_PC_isWithin x 0 65535) = 0 then g else (upd g (Int32.toNatClampNeg w) x))))
theorem b_Term_set (w : Int32) (x : Int32) : f_Term_set w x = 0 ∨ f_Term_set w x = 1 := by
  unfold f_Term_set
  exact (bo_ite (bo_ite (Or.inl rfl) (bo_ite (Or.inl rfl) (Or.inr rfl))) (bo_ite (bo_ite (Or.inl rfl) (bo_ite (Or.inl rfl) (Or.inr rfl))) (bo_ite (Or.inl rfl) (bo_ite (Or.inl rfl) (Or.inr rfl)))))
set_option maxRecDepth 100000 in
set_option maxHeartbeats 4000000 in
theorem c_Term_set (l : Launch) (D : va_G) (cA : Nat → ClassId) (sz : Nat) (h : Nat) (hs : Nat) (g : Nat → Int32) (w : Int32) (x : Int32)  : ct_M l D cA yn_Term_set cd_Term_set 2 0 0 sz [.ref h, .int w, .int x] [(h, .inr (1, [.ref hs])), (hs, .inl (cA 0, 7, .inl g))] (fun v_ w_ => v_ = some (.int (f_Term_set w x)) ∧ w_ = [(h, .inr (1, [.ref hs])), (hs, .inl (cA 0, 7, .inl (f_Term_set_1 g w x)))]) := by
  refine gw_met (by decide) rfl (Nat.le_of_ble_eq_true rfl) ?_
  intro p_ e_ s_ m_ args_ below_ meth_ c_ A_ S g_r g_k g_n hK hA
  refine gw_eq (ws' := [(h, .inr (1, [.ref hs])), (hs, .inl (cA 0, 7, .inl g))]) (lv' := [(0, .ref h), (1, .int w), (2, .int x)]) (st' := []) (pc' := 0) rfl rfl rfl rfl ?_
  refine gw_iload_n S dc_Term_set_0 rfl 1 rfl ?_
  refine gw_iconst (v := 1) S dc_Term_set_1 (by decide) ?_
  refine gw_icmp_eq (tgt := 10) S dc_Term_set_2 (by decide) (fun c_1 => ?_) (fun c_1 => ?_)
  · -- taken
    refine gw_ldc (v := 65535) S (gw_lk S mw_430) dc_Term_set_10 ?_
    refine gw_goto (tgt := 17) S dc_Term_set_12 (by decide) ?_
    refine gw_istore_n (lv' := [(3, .int 65535), (0, .ref h), (1, .int w), (2, .int x)]) S dc_Term_set_17 rfl (by decide) rfl ?_
    refine gw_iload_n S dc_Term_set_18 rfl 2 rfl ?_
    refine gw_iconst (v := 0) S dc_Term_set_19 (by decide) ?_
    refine gw_bipush (v := 6) S dc_Term_set_20 (by decide) ?_
    refine gw_callSNR (As := [.int w, .int 0, .int 6]) (st := []) S hK (c_PC_isWithin l D cA w 0 6 ) (cw_Term_15 S.2.2.2.2 rfl rfl ⟨Nat.le_of_ble_eq_true rfl, Nat.le_of_ble_eq_true rfl⟩ (hK.2 _ mn_432).2) [] rfl (by decide) rfl rfl (Nat.le_of_ble_eq_true rfl) dc_Term_set_22 ⟨Nat.le_of_ble_eq_true rfl, Nat.le_of_ble_eq_true rfl⟩ ?_
    rintro _ rfl
    refine gw_eq (ws' := [(h, .inr (1, [.ref hs])), (hs, .inl (cA 0, 7, .inl g))]) (lv' := [(3, .int 65535), (0, .ref h), (1, .int w), (2, .int x)]) (st' := [.int (f_PC_isWithin w 0 6)]) (pc' := 25) rfl rfl rfl rfl ?_
    refine gw_if_eq (tgt := 37) S dc_Term_set_25 (by decide) (fun c_3 => ?_) (fun c_3 => ?_)
    · -- taken
      refine gw_iconst (v := 0) S dc_Term_set_37 (by decide) ?_
      exact gw_zret (w := [(h, .inr (1, [.ref hs])), (hs, .inl (cA 0, 7, .inl g))]) S g_r g_k rfl [0, 1] rfl (by decide) ⟨(by simp only [f_Term_set, f_Term_set_1, if_pos c_1, if_pos c_3]), (by simp only [f_Term_set, f_Term_set_1, if_pos c_1, if_pos c_3])⟩ dc_Term_set_38
    · -- not
      refine gw_iload_n S dc_Term_set_28 rfl 3 rfl ?_
      refine gw_iconst (v := 0) S dc_Term_set_29 (by decide) ?_
      refine gw_iload_n S dc_Term_set_30 rfl 0 rfl ?_
      refine gw_callSNR (As := [.int x, .int 0, .int 65535]) (st := []) S hK (c_PC_isWithin l D cA x 0 65535 ) (cw_Term_15 S.2.2.2.2 rfl rfl ⟨Nat.le_of_ble_eq_true rfl, Nat.le_of_ble_eq_true rfl⟩ (hK.2 _ mn_432).2) [] rfl (by decide) rfl rfl (Nat.le_of_ble_eq_true rfl) dc_Term_set_31 ⟨Nat.le_of_ble_eq_true rfl, Nat.le_of_ble_eq_true rfl⟩ ?_
      rintro _ rfl
      refine gw_eq (ws' := [(h, .inr (1, [.ref hs])), (hs, .inl (cA 0, 7, .inl g))]) (lv' := [(3, .int 65535), (0, .ref h), (1, .int w), (2, .int x)]) (st' := [.int (f_PC_isWithin x 0 65535)]) (pc' := 34) rfl rfl rfl rfl ?_
      refine gw_if_ne (tgt := 39) S dc_Term_set_34 (by decide) (fun c_5 => ?_) (fun c_5 => ?_)
      · -- taken
        refine gw_aload_n S dc_Term_set_39 rfl 1 rfl ?_
        refine gw_get S hK.1 ic_Term rfl 0 (by decide) (gw_lk S mw_51) 0 rfl rfl dc_Term_set_40 ?_
        refine gw_iload_n S dc_Term_set_43 rfl 2 rfl ?_
        refine gw_iload_n S dc_Term_set_44 rfl 3 rfl ?_
        refine gw_iast (ws' := [(h, .inr (1, [.ref hs])), (hs, .inl (cA 0, 7, .inl (upd g (Int32.toNatClampNeg w) x)))]) S hK.1 1 0 rfl rfl (iw_in (by decide) c_3) rfl dc_Term_set_45 ?_
        refine gw_iconst (v := 1) S dc_Term_set_46 (by decide) ?_
        exact gw_zret (w := [(h, .inr (1, [.ref hs])), (hs, .inl (cA 0, 7, .inl (upd g (Int32.toNatClampNeg w) x)))]) S g_r g_k rfl [0, 1] rfl (by decide) ⟨(by simp only [f_Term_set, f_Term_set_1, if_pos c_1, if_neg c_3, if_neg c_5]), (by simp only [f_Term_set, f_Term_set_1, if_pos c_1, if_neg c_3, if_neg c_5])⟩ dc_Term_set_47
      · -- not
        refine gw_iconst (v := 0) S dc_Term_set_37 (by decide) ?_
        exact gw_zret (w := [(h, .inr (1, [.ref hs])), (hs, .inl (cA 0, 7, .inl g))]) S g_r g_k rfl [0, 1] rfl (by decide) ⟨(by simp only [f_Term_set, f_Term_set_1, if_pos c_1, if_neg c_3, if_pos c_5]), (by simp only [f_Term_set, f_Term_set_1, if_pos c_1, if_neg c_3, if_pos c_5])⟩ dc_Term_set_38
  · -- not
    refine gw_iload_n S dc_Term_set_5 rfl 1 rfl ?_
    refine gw_iconst (v := 4) S dc_Term_set_6 (by decide) ?_
    refine gw_icmp_lt (tgt := 15) S dc_Term_set_7 (by decide) (fun c_6 => ?_) (fun c_6 => ?_)
    · -- taken
      refine gw_ldc (v := 999999) S (gw_lk S mw_431) dc_Term_set_15 ?_
      refine gw_istore_n (lv' := [(3, .int 999999), (0, .ref h), (1, .int w), (2, .int x)]) S dc_Term_set_17 rfl (by decide) rfl ?_
      refine gw_iload_n S dc_Term_set_18 rfl 2 rfl ?_
      refine gw_iconst (v := 0) S dc_Term_set_19 (by decide) ?_
      refine gw_bipush (v := 6) S dc_Term_set_20 (by decide) ?_
      refine gw_callSNR (As := [.int w, .int 0, .int 6]) (st := []) S hK (c_PC_isWithin l D cA w 0 6 ) (cw_Term_15 S.2.2.2.2 rfl rfl ⟨Nat.le_of_ble_eq_true rfl, Nat.le_of_ble_eq_true rfl⟩ (hK.2 _ mn_432).2) [] rfl (by decide) rfl rfl (Nat.le_of_ble_eq_true rfl) dc_Term_set_22 ⟨Nat.le_of_ble_eq_true rfl, Nat.le_of_ble_eq_true rfl⟩ ?_
      rintro _ rfl
      refine gw_eq (ws' := [(h, .inr (1, [.ref hs])), (hs, .inl (cA 0, 7, .inl g))]) (lv' := [(3, .int 999999), (0, .ref h), (1, .int w), (2, .int x)]) (st' := [.int (f_PC_isWithin w 0 6)]) (pc' := 25) rfl rfl rfl rfl ?_
      refine gw_if_eq (tgt := 37) S dc_Term_set_25 (by decide) (fun c_8 => ?_) (fun c_8 => ?_)
      · -- taken
        refine gw_iconst (v := 0) S dc_Term_set_37 (by decide) ?_
        exact gw_zret (w := [(h, .inr (1, [.ref hs])), (hs, .inl (cA 0, 7, .inl g))]) S g_r g_k rfl [0, 1] rfl (by decide) ⟨(by simp only [f_Term_set, f_Term_set_1, if_neg c_1, if_pos c_6, if_pos c_8]), (by simp only [f_Term_set, f_Term_set_1, if_neg c_1, if_pos c_6, if_pos c_8])⟩ dc_Term_set_38
      · -- not
        refine gw_iload_n S dc_Term_set_28 rfl 3 rfl ?_
        refine gw_iconst (v := 0) S dc_Term_set_29 (by decide) ?_
        refine gw_iload_n S dc_Term_set_30 rfl 0 rfl ?_
        refine gw_callSNR (As := [.int x, .int 0, .int 999999]) (st := []) S hK (c_PC_isWithin l D cA x 0 999999 ) (cw_Term_15 S.2.2.2.2 rfl rfl ⟨Nat.le_of_ble_eq_true rfl, Nat.le_of_ble_eq_true rfl⟩ (hK.2 _ mn_432).2) [] rfl (by decide) rfl rfl (Nat.le_of_ble_eq_true rfl) dc_Term_set_31 ⟨Nat.le_of_ble_eq_true rfl, Nat.le_of_ble_eq_true rfl⟩ ?_
        rintro _ rfl
        refine gw_eq (ws' := [(h, .inr (1, [.ref hs])), (hs, .inl (cA 0, 7, .inl g))]) (lv' := [(3, .int 999999), (0, .ref h), (1, .int w), (2, .int x)]) (st' := [.int (f_PC_isWithin x 0 999999)]) (pc' := 34) rfl rfl rfl rfl ?_
        refine gw_if_ne (tgt := 39) S dc_Term_set_34 (by decide) (fun c_10 => ?_) (fun c_10 => ?_)
        · -- taken
          refine gw_aload_n S dc_Term_set_39 rfl 1 rfl ?_
          refine gw_get S hK.1 ic_Term rfl 0 (by decide) (gw_lk S mw_51) 0 rfl rfl dc_Term_set_40 ?_
          refine gw_iload_n S dc_Term_set_43 rfl 2 rfl ?_
          refine gw_iload_n S dc_Term_set_44 rfl 3 rfl ?_
          refine gw_iast (ws' := [(h, .inr (1, [.ref hs])), (hs, .inl (cA 0, 7, .inl (upd g (Int32.toNatClampNeg w) x)))]) S hK.1 1 0 rfl rfl (iw_in (by decide) c_8) rfl dc_Term_set_45 ?_
          refine gw_iconst (v := 1) S dc_Term_set_46 (by decide) ?_
          exact gw_zret (w := [(h, .inr (1, [.ref hs])), (hs, .inl (cA 0, 7, .inl (upd g (Int32.toNatClampNeg w) x)))]) S g_r g_k rfl [0, 1] rfl (by decide) ⟨(by simp only [f_Term_set, f_Term_set_1, if_neg c_1, if_pos c_6, if_neg c_8, if_neg c_10]), (by simp only [f_Term_set, f_Term_set_1, if_neg c_1, if_pos c_6, if_neg c_8, if_neg c_10])⟩ dc_Term_set_47
        · -- not
          refine gw_iconst (v := 0) S dc_Term_set_37 (by decide) ?_
          exact gw_zret (w := [(h, .inr (1, [.ref hs])), (hs, .inl (cA 0, 7, .inl g))]) S g_r g_k rfl [0, 1] rfl (by decide) ⟨(by simp only [f_Term_set, f_Term_set_1, if_neg c_1, if_pos c_6, if_neg c_8, if_pos c_10]), (by simp only [f_Term_set, f_Term_set_1, if_neg c_1, if_pos c_6, if_neg c_8, if_pos c_10])⟩ dc_Term_set_38
    · -- not
      refine gw_ldc (v := 65535) S (gw_lk S mw_430) dc_Term_set_10 ?_
      refine gw_goto (tgt := 17) S dc_Term_set_12 (by decide) ?_
      refine gw_istore_n (lv' := [(3, .int 65535), (0, .ref h), (1, .int w), (2, .int x)]) S dc_Term_set_17 rfl (by decide) rfl ?_
      refine gw_iload_n S dc_Term_set_18 rfl 2 rfl ?_
      refine gw_iconst (v := 0) S dc_Term_set_19 (by decide) ?_
      refine gw_bipush (v := 6) S dc_Term_set_20 (by decide) ?_
      refine gw_callSNR (As := [.int w, .int 0, .int 6]) (st := []) S hK (c_PC_isWithin l D cA w 0 6 ) (cw_Term_15 S.2.2.2.2 rfl rfl ⟨Nat.le_of_ble_eq_true rfl, Nat.le_of_ble_eq_true rfl⟩ (hK.2 _ mn_432).2) [] rfl (by decide) rfl rfl (Nat.le_of_ble_eq_true rfl) dc_Term_set_22 ⟨Nat.le_of_ble_eq_true rfl, Nat.le_of_ble_eq_true rfl⟩ ?_
      rintro _ rfl
      refine gw_eq (ws' := [(h, .inr (1, [.ref hs])), (hs, .inl (cA 0, 7, .inl g))]) (lv' := [(3, .int 65535), (0, .ref h), (1, .int w), (2, .int x)]) (st' := [.int (f_PC_isWithin w 0 6)]) (pc' := 25) rfl rfl rfl rfl ?_
      refine gw_if_eq (tgt := 37) S dc_Term_set_25 (by decide) (fun c_12 => ?_) (fun c_12 => ?_)
      · -- taken
        refine gw_iconst (v := 0) S dc_Term_set_37 (by decide) ?_
        exact gw_zret (w := [(h, .inr (1, [.ref hs])), (hs, .inl (cA 0, 7, .inl g))]) S g_r g_k rfl [0, 1] rfl (by decide) ⟨(by simp only [f_Term_set, f_Term_set_1, if_neg c_1, if_neg c_6, if_pos c_12]), (by simp only [f_Term_set, f_Term_set_1, if_neg c_1, if_neg c_6, if_pos c_12])⟩ dc_Term_set_38
      · -- not
        refine gw_iload_n S dc_Term_set_28 rfl 3 rfl ?_
        refine gw_iconst (v := 0) S dc_Term_set_29 (by decide) ?_
        refine gw_iload_n S dc_Term_set_30 rfl 0 rfl ?_
        refine gw_callSNR (As := [.int x, .int 0, .int 65535]) (st := []) S hK (c_PC_isWithin l D cA x 0 65535 ) (cw_Term_15 S.2.2.2.2 rfl rfl ⟨Nat.le_of_ble_eq_true rfl, Nat.le_of_ble_eq_true rfl⟩ (hK.2 _ mn_432).2) [] rfl (by decide) rfl rfl (Nat.le_of_ble_eq_true rfl) dc_Term_set_31 ⟨Nat.le_of_ble_eq_true rfl, Nat.le_of_ble_eq_true rfl⟩ ?_
        rintro _ rfl
        refine gw_eq (ws' := [(h, .inr (1, [.ref hs])), (hs, .inl (cA 0, 7, .inl g))]) (lv' := [(3, .int 65535), (0, .ref h), (1, .int w), (2, .int x)]) (st' := [.int (f_PC_isWithin x 0 65535)]) (pc' := 34) rfl rfl rfl rfl ?_
        refine gw_if_ne (tgt := 39) S dc_Term_set_34 (by decide) (fun c_14 => ?_) (fun c_14 => ?_)
        · -- taken
          refine gw_aload_n S dc_Term_set_39 rfl 1 rfl ?_
          refine gw_get S hK.1 ic_Term rfl 0 (by decide) (gw_lk S mw_51) 0 rfl rfl dc_Term_set_40 ?_
          refine gw_iload_n S dc_Term_set_43 rfl 2 rfl ?_
          refine gw_iload_n S dc_Term_set_44 rfl 3 rfl ?_
          refine gw_iast (ws' := [(h, .inr (1, [.ref hs])), (hs, .inl (cA 0, 7, .inl (upd g (Int32.toNatClampNeg w) x)))]) S hK.1 1 0 rfl rfl (iw_in (by decide) c_12) rfl dc_Term_set_45 ?_
          refine gw_iconst (v := 1) S dc_Term_set_46 (by decide) ?_
          exact gw_zret (w := [(h, .inr (1, [.ref hs])), (hs, .inl (cA 0, 7, .inl (upd g (Int32.toNatClampNeg w) x)))]) S g_r g_k rfl [0, 1] rfl (by decide) ⟨(by simp only [f_Term_set, f_Term_set_1, if_neg c_1, if_neg c_6, if_neg c_12, if_neg c_14]), (by simp only [f_Term_set, f_Term_set_1, if_neg c_1, if_neg c_6, if_neg c_12, if_neg c_14])⟩ dc_Term_set_47
        · -- not
          refine gw_iconst (v := 0) S dc_Term_set_37 (by decide) ?_
          exact gw_zret (w := [(h, .inr (1, [.ref hs])), (hs, .inl (cA 0, 7, .inl g))]) S g_r g_k rfl [0, 1] rfl (by decide) ⟨(by simp only [f_Term_set, f_Term_set_1, if_neg c_1, if_neg c_6, if_neg c_12, if_pos c_14]), (by simp only [f_Term_set, f_Term_set_1, if_neg c_1, if_neg c_6, if_neg c_12, if_pos c_14])⟩ dc_Term_set_38
set_option maxRecDepth 100000 in
set_option maxHeartbeats 4000000 in
theorem c_Host_isAccount (l : Launch) (D : va_G) (cA : Nat → ClassId) (a : Int32)  : ct_R l D cA yn_Host_isAccount cd_Host_isAccount 2 [.int a] [] (fun v_ => v_ = some (.int (f_PC_isWithin a 0 7))) := by
  refine gw_metR (by decide) rfl (Nat.le_of_ble_eq_true rfl) ?_
  intro p_ e_ s_ m_ args_ below_ meth_ c_ S g_r g_k hK
  refine gw_eq (ws' := []) (lv' := [(0, .int a)]) (st' := []) (pc' := 0) rfl rfl rfl rfl ?_
  refine gw_iload_n S dc_Host_isAccount_0 rfl 0 rfl ?_
  refine gw_iconst (v := 0) S dc_Host_isAccount_1 (by decide) ?_
  refine gw_bipush (v := 7) S dc_Host_isAccount_2 (by decide) ?_
  refine gw_callSNR (As := [.int a, .int 0, .int 7]) (st := []) S hK (c_PC_isWithin l D cA a 0 7 ) (cw_Host_26 S.2.2.2.2 rfl rfl ⟨Nat.le_of_ble_eq_true rfl, Nat.le_of_ble_eq_true rfl⟩ (hK.2 _ mn_421).2) [] rfl (by decide) rfl rfl (Nat.le_of_ble_eq_true rfl) dc_Host_isAccount_4 ⟨Nat.le_of_ble_eq_true rfl, Nat.le_of_ble_eq_true rfl⟩ ?_
  rintro _ rfl
  refine gw_eq (ws' := []) (lv' := [(0, .int a)]) (st' := [.int (f_PC_isWithin a 0 7)]) (pc' := 7) rfl rfl rfl rfl ?_
  exact gw_zretR S g_r g_k (z_cx (b_PC_isWithin a 0 7)) rfl dc_Host_isAccount_7
def f_Host_open_1 (b : Nat → Int64) (a : Int32) (x : Int32) : Nat → Int64 := if (f_PC_isWithin a 0 7) = 0 then b else (vp_updL b (Int32.toNatClampNeg a) (Int32.toInt64 x))
def f_Host_open_2 (k : Nat → Int32) (a : Int32) (y : Int32) : Nat → Int32 := if (f_PC_isWithin a 0 7) = 0 then k else (upd k (Int32.toNatClampNeg a) y)
def f_Host_open_3 (la : Nat → Int32) (a : Int32) : Nat → Int32 := if (f_PC_isWithin a 0 7) = 0 then la else (upd la (Int32.toNatClampNeg a) 0)
set_option maxRecDepth 100000 in
set_option maxHeartbeats 4000000 in
theorem c_Host_open (l : Launch) (D : va_G) (cA : Nat → ClassId) (sz : Nat) (h : Nat) (h1 : Nat) (h2 : Nat) (h3 : Nat) (b : Nat → Int64) (k : Nat → Int32) (la : Nat → Int32) (sd : Int32) (a : Int32) (x : Int32) (y : Int32)  : ct_M l D cA yn_Host_open cd_Host_open 3 0 0 sz [.ref h, .int a, .int x, .int y] [(h, .inr (2, [.ref h1, .ref h2, .ref h3, .int sd])), (h1, .inl (cA 1, 8, .inr (.inl b))), (h2, .inl (cA 0, 8, .inl k)), (h3, .inl (cA 0, 8, .inl la))] (fun v_ w_ => v_ = none ∧ w_ = [(h, .inr (2, [.ref h1, .ref h2, .ref h3, .int sd])), (h1, .inl (cA 1, 8, .inr (.inl (f_Host_open_1 b a x)))), (h2, .inl (cA 0, 8, .inl (f_Host_open_2 k a y))), (h3, .inl (cA 0, 8, .inl (f_Host_open_3 la a)))]) := by
  refine gw_met (by decide) rfl (Nat.le_of_ble_eq_true rfl) ?_
  intro p_ e_ s_ m_ args_ below_ meth_ c_ A_ S g_r g_k g_n hK hA
  refine gw_eq (ws' := [(h, .inr (2, [.ref h1, .ref h2, .ref h3, .int sd])), (h1, .inl (cA 1, 8, .inr (.inl b))), (h2, .inl (cA 0, 8, .inl k)), (h3, .inl (cA 0, 8, .inl la))]) (lv' := [(0, .ref h), (1, .int a), (2, .int x), (3, .int y)]) (st' := []) (pc' := 0) rfl rfl rfl rfl ?_
  refine gw_iload_n S dc_Host_open_0 rfl 1 rfl ?_
  refine gw_callSR (As := [.int a]) (st := []) S hK (c_Host_isAccount l D cA a ) (cw_Host_22 S.2.2.2.2 rfl rfl ⟨Nat.le_of_ble_eq_true rfl, Nat.le_of_ble_eq_true rfl⟩) [] rfl (by decide) rfl rfl (Nat.le_of_ble_eq_true rfl) dc_Host_open_1 ⟨Nat.le_of_ble_eq_true rfl, Nat.le_of_ble_eq_true rfl⟩ ?_
  rintro _ rfl
  refine gw_eq (ws' := [(h, .inr (2, [.ref h1, .ref h2, .ref h3, .int sd])), (h1, .inl (cA 1, 8, .inr (.inl b))), (h2, .inl (cA 0, 8, .inl k)), (h3, .inl (cA 0, 8, .inl la))]) (lv' := [(0, .ref h), (1, .int a), (2, .int x), (3, .int y)]) (st' := [.int (f_PC_isWithin a 0 7)]) (pc' := 4) rfl rfl rfl rfl ?_
  refine gw_if_eq (tgt := 29) S dc_Host_open_4 (by decide) (fun c_2 => ?_) (fun c_2 => ?_)
  · -- taken
    exact gw_vret (w := [(h, .inr (2, [.ref h1, .ref h2, .ref h3, .int sd])), (h1, .inl (cA 1, 8, .inr (.inl b))), (h2, .inl (cA 0, 8, .inl k)), (h3, .inl (cA 0, 8, .inl la))]) S g_r g_k  [0, 1, 2, 3] rfl (by decide) ⟨(by simp only [f_Host_open_1, f_Host_open_2, f_Host_open_3, if_pos c_2]), (by simp only [f_Host_open_1, f_Host_open_2, f_Host_open_3, if_pos c_2])⟩ dc_Host_open_29
  · -- not
    refine gw_aload_n S dc_Host_open_7 rfl 0 rfl ?_
    refine gw_get S hK.1 ic_Host rfl 0 (by decide) (gw_lk S mw_61) 0 rfl rfl dc_Host_open_8 ?_
    refine gw_iload_n S dc_Host_open_11 rfl 1 rfl ?_
    refine gw_iload_n S dc_Host_open_12 rfl 2 rfl ?_
    refine gw_i2l S dc_Host_open_13 rfl ?_
    refine gw_last (ws' := [(h, .inr (2, [.ref h1, .ref h2, .ref h3, .int sd])), (h1, .inl (cA 1, 8, .inr (.inl (vp_updL b (Int32.toNatClampNeg a) (Int32.toInt64 x))))), (h2, .inl (cA 0, 8, .inl k)), (h3, .inl (cA 0, 8, .inl la))]) S hK.1 1 1 rfl rfl (iw_in (by decide) c_2) rfl dc_Host_open_14 ?_
    refine gw_aload_n S dc_Host_open_15 rfl 0 rfl ?_
    refine gw_get S hK.1 ic_Host rfl 1 (by decide) (gw_lk S mw_62) 0 rfl rfl dc_Host_open_16 ?_
    refine gw_iload_n S dc_Host_open_19 rfl 1 rfl ?_
    refine gw_iload_n S dc_Host_open_20 rfl 3 rfl ?_
    refine gw_iast (ws' := [(h, .inr (2, [.ref h1, .ref h2, .ref h3, .int sd])), (h1, .inl (cA 1, 8, .inr (.inl (vp_updL b (Int32.toNatClampNeg a) (Int32.toInt64 x))))), (h2, .inl (cA 0, 8, .inl (upd k (Int32.toNatClampNeg a) y))), (h3, .inl (cA 0, 8, .inl la))]) S hK.1 2 0 rfl rfl (iw_in (by decide) c_2) rfl dc_Host_open_21 ?_
    refine gw_aload_n S dc_Host_open_22 rfl 0 rfl ?_
    refine gw_get S hK.1 ic_Host rfl 2 (by decide) (gw_lk S mw_63) 0 rfl rfl dc_Host_open_23 ?_
    refine gw_iload_n S dc_Host_open_26 rfl 1 rfl ?_
    refine gw_iconst (v := 0) S dc_Host_open_27 (by decide) ?_
    refine gw_iast (ws' := [(h, .inr (2, [.ref h1, .ref h2, .ref h3, .int sd])), (h1, .inl (cA 1, 8, .inr (.inl (vp_updL b (Int32.toNatClampNeg a) (Int32.toInt64 x))))), (h2, .inl (cA 0, 8, .inl (upd k (Int32.toNatClampNeg a) y))), (h3, .inl (cA 0, 8, .inl (upd la (Int32.toNatClampNeg a) 0)))]) S hK.1 3 0 rfl rfl (iw_in (by decide) c_2) rfl dc_Host_open_28 ?_
    exact gw_vret (w := [(h, .inr (2, [.ref h1, .ref h2, .ref h3, .int sd])), (h1, .inl (cA 1, 8, .inr (.inl (vp_updL b (Int32.toNatClampNeg a) (Int32.toInt64 x))))), (h2, .inl (cA 0, 8, .inl (upd k (Int32.toNatClampNeg a) y))), (h3, .inl (cA 0, 8, .inl (upd la (Int32.toNatClampNeg a) 0)))]) S g_r g_k  [0, 1, 2, 3] rfl (by decide) ⟨(by simp only [f_Host_open_1, f_Host_open_2, f_Host_open_3, if_neg c_2]), (by simp only [f_Host_open_1, f_Host_open_2, f_Host_open_3, if_neg c_2])⟩ dc_Host_open_29
def f_Host_balanceOf (b : Nat → Int64) (a : Int32) : Int64 := if (f_PC_isWithin a 0 7) = 0 then (-1) else (b (Int32.toNatClampNeg a))
set_option maxRecDepth 100000 in
set_option maxHeartbeats 4000000 in
theorem c_Host_balanceOf (l : Launch) (D : va_G) (cA : Nat → ClassId) (h : Nat) (h1 : Nat) (h2 : Nat) (h3 : Nat) (b : Nat → Int64) (sd : Int32) (a : Int32)  : ct_R l D cA yn_Host_balanceOf cd_Host_balanceOf 3 [.ref h, .int a] [(h, .inr (2, [.ref h1, .ref h2, .ref h3, .int sd])), (h1, .inl (cA 1, 8, .inr (.inl b)))] (fun v_ => v_ = some (.long (f_Host_balanceOf b a))) := by
  refine gw_metR (by decide) rfl (Nat.le_of_ble_eq_true rfl) ?_
  intro p_ e_ s_ m_ args_ below_ meth_ c_ S g_r g_k hK
  refine gw_eq (ws' := [(h, .inr (2, [.ref h1, .ref h2, .ref h3, .int sd])), (h1, .inl (cA 1, 8, .inr (.inl b)))]) (lv' := [(0, .ref h), (1, .int a)]) (st' := []) (pc' := 0) rfl rfl rfl rfl ?_
  refine gw_iload_n S dc_Host_balanceOf_0 rfl 1 rfl ?_
  refine gw_callSR (As := [.int a]) (st := []) S hK (c_Host_isAccount l D cA a ) (cw_Host_22 S.2.2.2.2 rfl rfl ⟨Nat.le_of_ble_eq_true rfl, Nat.le_of_ble_eq_true rfl⟩) [] rfl (by decide) rfl rfl (Nat.le_of_ble_eq_true rfl) dc_Host_balanceOf_1 ⟨Nat.le_of_ble_eq_true rfl, Nat.le_of_ble_eq_true rfl⟩ ?_
  rintro _ rfl
  refine gw_eq (ws' := [(h, .inr (2, [.ref h1, .ref h2, .ref h3, .int sd])), (h1, .inl (cA 1, 8, .inr (.inl b)))]) (lv' := [(0, .ref h), (1, .int a)]) (st' := [.int (f_PC_isWithin a 0 7)]) (pc' := 4) rfl rfl rfl rfl ?_
  refine gw_if_eq (tgt := 16) S dc_Host_balanceOf_4 (by decide) (fun c_2 => ?_) (fun c_2 => ?_)
  · -- taken
    refine gw_ldc2 (v := -1) S (gw_lk S mw_765) dc_Host_balanceOf_16 ?_
    exact gw_lretR S g_r g_k  (by simp only [f_Host_balanceOf, if_pos c_2]) dc_Host_balanceOf_19
  · -- not
    refine gw_aload_n S dc_Host_balanceOf_7 rfl 0 rfl ?_
    refine gw_get S hK.1 ic_Host rfl 0 (by decide) (gw_lk S mw_61) 0 rfl rfl dc_Host_balanceOf_8 ?_
    refine gw_iload_n S dc_Host_balanceOf_11 rfl 1 rfl ?_
    refine gw_lald S hK.1 1 1 rfl rfl (iw_in (by decide) c_2) dc_Host_balanceOf_12 ?_
    refine gw_goto (tgt := 19) S dc_Host_balanceOf_13 (by decide) ?_
    exact gw_lretR S g_r g_k  (by simp only [f_Host_balanceOf, if_neg c_2]) dc_Host_balanceOf_19
def f_Host_sealOf (k : Nat → Int32) (a : Int32) (x : Int32) (y : Int32) : Int32 := if (f_PC_isWithin a 0 7) = 0 then 0 else (f_Mac_seal (k (Int32.toNatClampNeg a)) x y)
set_option maxRecDepth 100000 in
set_option maxHeartbeats 4000000 in
theorem c_Host_sealOf (l : Launch) (D : va_G) (cA : Nat → ClassId) (h : Nat) (h1 : Nat) (h2 : Nat) (h3 : Nat) (k : Nat → Int32) (sd : Int32) (a : Int32) (x : Int32) (y : Int32)  : ct_R l D cA yn_Host_sealOf cd_Host_sealOf 3 [.ref h, .int a, .int x, .int y] [(h, .inr (2, [.ref h1, .ref h2, .ref h3, .int sd])), (h2, .inl (cA 0, 8, .inl k))] (fun v_ => v_ = some (.int (f_Host_sealOf k a x y))) := by
  refine gw_metR (by decide) rfl (Nat.le_of_ble_eq_true rfl) ?_
  intro p_ e_ s_ m_ args_ below_ meth_ c_ S g_r g_k hK
  refine gw_eq (ws' := [(h, .inr (2, [.ref h1, .ref h2, .ref h3, .int sd])), (h2, .inl (cA 0, 8, .inl k))]) (lv' := [(0, .ref h), (1, .int a), (2, .int x), (3, .int y)]) (st' := []) (pc' := 0) rfl rfl rfl rfl ?_
  refine gw_iload_n S dc_Host_sealOf_0 rfl 1 rfl ?_
  refine gw_callSR (As := [.int a]) (st := []) S hK (c_Host_isAccount l D cA a ) (cw_Host_22 S.2.2.2.2 rfl rfl ⟨Nat.le_of_ble_eq_true rfl, Nat.le_of_ble_eq_true rfl⟩) [] rfl (by decide) rfl rfl (Nat.le_of_ble_eq_true rfl) dc_Host_sealOf_1 ⟨Nat.le_of_ble_eq_true rfl, Nat.le_of_ble_eq_true rfl⟩ ?_
  rintro _ rfl
  refine gw_eq (ws' := [(h, .inr (2, [.ref h1, .ref h2, .ref h3, .int sd])), (h2, .inl (cA 0, 8, .inl k))]) (lv' := [(0, .ref h), (1, .int a), (2, .int x), (3, .int y)]) (st' := [.int (f_PC_isWithin a 0 7)]) (pc' := 4) rfl rfl rfl rfl ?_
  refine gw_if_eq (tgt := 21) S dc_Host_sealOf_4 (by decide) (fun c_2 => ?_) (fun c_2 => ?_)
  · -- taken
    refine gw_iconst (v := 0) S dc_Host_sealOf_21 (by decide) ?_
    exact gw_iretR S g_r g_k  (by simp only [f_Host_sealOf, if_pos c_2]) dc_Host_sealOf_22
  · -- not
    refine gw_aload_n S dc_Host_sealOf_7 rfl 0 rfl ?_
    refine gw_get S hK.1 ic_Host rfl 1 (by decide) (gw_lk S mw_62) 0 rfl rfl dc_Host_sealOf_8 ?_
    refine gw_iload_n S dc_Host_sealOf_11 rfl 1 rfl ?_
    refine gw_iald S hK.1 1 0 rfl rfl (iw_in (by decide) c_2) dc_Host_sealOf_12 ?_
    refine gw_iload_n S dc_Host_sealOf_13 rfl 2 rfl ?_
    refine gw_iload_n S dc_Host_sealOf_14 rfl 3 rfl ?_
    refine gw_callSR (As := [.int (k (Int32.toNatClampNeg a)), .int x, .int y]) (st := []) S hK (c_Mac_seal l D cA (k (Int32.toNatClampNeg a)) x y ) (cw_Host_42 S.2.2.2.2 rfl rfl ⟨Nat.le_of_ble_eq_true rfl, Nat.le_of_ble_eq_true rfl⟩) [] rfl (by decide) rfl rfl (Nat.le_of_ble_eq_true rfl) dc_Host_sealOf_15 ⟨Nat.le_of_ble_eq_true rfl, Nat.le_of_ble_eq_true rfl⟩ ?_
    rintro _ rfl
    refine gw_eq (ws' := [(h, .inr (2, [.ref h1, .ref h2, .ref h3, .int sd])), (h2, .inl (cA 0, 8, .inl k))]) (lv' := [(0, .ref h), (1, .int a), (2, .int x), (3, .int y)]) (st' := [.int (f_Mac_seal (k (Int32.toNatClampNeg a)) x y)]) (pc' := 18) rfl rfl rfl rfl ?_
    refine gw_goto (tgt := 22) S dc_Host_sealOf_18 (by decide) ?_
    exact gw_iretR S g_r g_k  (by simp only [f_Host_sealOf, if_neg c_2]) dc_Host_sealOf_22
def f_Host_reverse_standing (sd : Int32) (va : Int32) (vd : Int32) : Int32 := if vd = 0 then sd else (if (f_PC_isWithin va 0 7) = 0 then sd else (sd - 1))
def f_Host_reverse_1 (b : Nat → Int64) (va : Int32) (vm : Int32) (vd : Int32) : Nat → Int64 := if vd = 0 then b else (if (f_PC_isWithin va 0 7) = 0 then b else (vp_updL b (Int32.toNatClampNeg va) ((b (Int32.toNatClampNeg va)) + (Int32.toInt64 vm))))
def f_Host_reverse_isDue (va : Int32) (vd : Int32) : Int32 := if vd = 0 then vd else (if (f_PC_isWithin va 0 7) = 0 then vd else (0))
set_option maxRecDepth 100000 in
set_option maxHeartbeats 4000000 in
theorem c_Host_reverse (l : Launch) (D : va_G) (cA : Nat → ClassId) (sz : Nat) (h : Nat) (h1 : Nat) (h2 : Nat) (h3 : Nat) (b : Nat → Int64) (sd : Int32) (hv : Nat) (vn : Int32) (va : Int32) (vm : Int32) (vd : Int32)  : ct_M l D cA yn_Host_reverse cd_Host_reverse 3 0 0 sz [.ref h, .ref hv] [(h, .inr (2, [.ref h1, .ref h2, .ref h3, .int sd])), (h1, .inl (cA 1, 8, .inr (.inl b))), (hv, .inr (6, [.int vn, .int va, .int vm, .int vd]))] (fun v_ w_ => v_ = none ∧ w_ = [(h, .inr (2, [.ref h1, .ref h2, .ref h3, .int (f_Host_reverse_standing sd va vd)])), (h1, .inl (cA 1, 8, .inr (.inl (f_Host_reverse_1 b va vm vd)))), (hv, .inr (6, [.int vn, .int va, .int vm, .int (f_Host_reverse_isDue va vd)]))]) := by
  refine gw_met (by decide) rfl (Nat.le_of_ble_eq_true rfl) ?_
  intro p_ e_ s_ m_ args_ below_ meth_ c_ A_ S g_r g_k g_n hK hA
  refine gw_eq (ws' := [(h, .inr (2, [.ref h1, .ref h2, .ref h3, .int sd])), (h1, .inl (cA 1, 8, .inr (.inl b))), (hv, .inr (6, [.int vn, .int va, .int vm, .int vd]))]) (lv' := [(0, .ref h), (1, .ref hv)]) (st' := []) (pc' := 0) rfl rfl rfl rfl ?_
  refine gw_aload_n S dc_Host_reverse_0 rfl 1 rfl ?_
  refine gw_getN S hK.1 ic_Rev rfl 3 (by decide) (hK.2 _ mn_615).2 2 rfl rfl dc_Host_reverse_1 ?_
  refine gw_if_eq (tgt := 49) S dc_Host_reverse_4 (by decide) (fun c_1 => ?_) (fun c_1 => ?_)
  · -- taken
    exact gw_vret (w := [(h, .inr (2, [.ref h1, .ref h2, .ref h3, .int sd])), (h1, .inl (cA 1, 8, .inr (.inl b))), (hv, .inr (6, [.int vn, .int va, .int vm, .int vd]))]) S g_r g_k  [0, 1, 2] rfl (by decide) ⟨(by simp only [f_Host_reverse_standing, f_Host_reverse_1, f_Host_reverse_isDue, if_pos c_1]), (by simp only [f_Host_reverse_standing, f_Host_reverse_1, f_Host_reverse_isDue, if_pos c_1])⟩ dc_Host_reverse_49
  · -- not
    refine gw_aload_n S dc_Host_reverse_7 rfl 1 rfl ?_
    refine gw_getN S hK.1 ic_Rev rfl 1 (by decide) (hK.2 _ mn_611).2 2 rfl rfl dc_Host_reverse_8 ?_
    refine gw_callSR (As := [.int va]) (st := []) S hK (c_Host_isAccount l D cA va ) (cw_Host_22 S.2.2.2.2 rfl rfl ⟨Nat.le_of_ble_eq_true rfl, Nat.le_of_ble_eq_true rfl⟩) [] rfl (by decide) rfl rfl (Nat.le_of_ble_eq_true rfl) dc_Host_reverse_11 ⟨Nat.le_of_ble_eq_true rfl, Nat.le_of_ble_eq_true rfl⟩ ?_
    rintro _ rfl
    refine gw_eq (ws' := [(h, .inr (2, [.ref h1, .ref h2, .ref h3, .int sd])), (h1, .inl (cA 1, 8, .inr (.inl b))), (hv, .inr (6, [.int vn, .int va, .int vm, .int vd]))]) (lv' := [(0, .ref h), (1, .ref hv)]) (st' := [.int (f_PC_isWithin va 0 7)]) (pc' := 14) rfl rfl rfl rfl ?_
    refine gw_if_eq (tgt := 49) S dc_Host_reverse_14 (by decide) (fun c_3 => ?_) (fun c_3 => ?_)
    · -- taken
      exact gw_vret (w := [(h, .inr (2, [.ref h1, .ref h2, .ref h3, .int sd])), (h1, .inl (cA 1, 8, .inr (.inl b))), (hv, .inr (6, [.int vn, .int va, .int vm, .int vd]))]) S g_r g_k  [0, 1, 2] rfl (by decide) ⟨(by simp only [f_Host_reverse_standing, f_Host_reverse_1, f_Host_reverse_isDue, if_neg c_1, if_pos c_3]), (by simp only [f_Host_reverse_standing, f_Host_reverse_1, f_Host_reverse_isDue, if_neg c_1, if_pos c_3])⟩ dc_Host_reverse_49
    · -- not
      refine gw_aload_n S dc_Host_reverse_17 rfl 0 rfl ?_
      refine gw_get S hK.1 ic_Host rfl 0 (by decide) (gw_lk S mw_61) 0 rfl rfl dc_Host_reverse_18 ?_
      refine gw_aload_n S dc_Host_reverse_21 rfl 1 rfl ?_
      refine gw_getN S hK.1 ic_Rev rfl 1 (by decide) (hK.2 _ mn_611).2 2 rfl rfl dc_Host_reverse_22 ?_
      refine gw_dup2_11 S dc_Host_reverse_25 rfl rfl ?_
      refine gw_lald S hK.1 1 1 rfl rfl (iw_in (by decide) c_3) dc_Host_reverse_26 ?_
      refine gw_aload_n S dc_Host_reverse_27 rfl 1 rfl ?_
      refine gw_getN S hK.1 ic_Rev rfl 2 (by decide) (hK.2 _ mn_613).2 2 rfl rfl dc_Host_reverse_28 ?_
      refine gw_i2l S dc_Host_reverse_31 rfl ?_
      refine gw_ladd S dc_Host_reverse_32 ?_
      refine gw_last (ws' := [(h, .inr (2, [.ref h1, .ref h2, .ref h3, .int sd])), (h1, .inl (cA 1, 8, .inr (.inl (vp_updL b (Int32.toNatClampNeg va) ((b (Int32.toNatClampNeg va)) + (Int32.toInt64 vm)))))), (hv, .inr (6, [.int vn, .int va, .int vm, .int vd]))]) S hK.1 1 1 rfl rfl (iw_in (by decide) c_3) rfl dc_Host_reverse_33 ?_
      refine gw_aload_n S dc_Host_reverse_34 rfl 0 rfl ?_
      refine gw_dup S dc_Host_reverse_35 rfl ?_
      refine gw_get S hK.1 ic_Host rfl 3 (by decide) (gw_lk S mw_64) 0 rfl rfl dc_Host_reverse_36 ?_
      refine gw_iconst (v := 1) S dc_Host_reverse_39 (by decide) ?_
      refine gw_isub S dc_Host_reverse_40 ?_
      refine gw_put (ws' := [(h, .inr (2, [.ref h1, .ref h2, .ref h3, .int (sd - 1)])), (h1, .inl (cA 1, 8, .inr (.inl (vp_updL b (Int32.toNatClampNeg va) ((b (Int32.toNatClampNeg va)) + (Int32.toInt64 vm)))))), (hv, .inr (6, [.int vn, .int va, .int vm, .int vd]))]) (ty := .int) S hK.1 ic_Host rfl 3 (by decide) ty_Host to_Host nm_Host (gw_lk S mw_64) 0 rfl rfl (by decide +kernel) rfl rfl (Nat.le_of_ble_eq_true rfl) rfl dc_Host_reverse_41 ?_
      refine gw_aload_n S dc_Host_reverse_44 rfl 1 rfl ?_
      refine gw_iconst (v := 0) S dc_Host_reverse_45 (by decide) ?_
      refine gw_putN (ws' := [(h, .inr (2, [.ref h1, .ref h2, .ref h3, .int (sd - 1)])), (h1, .inl (cA 1, 8, .inr (.inl (vp_updL b (Int32.toNatClampNeg va) ((b (Int32.toNatClampNeg va)) + (Int32.toInt64 vm)))))), (hv, .inr (6, [.int vn, .int va, .int vm, .int 0]))]) (ty := .boolean) S hK.1 ic_Rev rfl 3 (by decide) ty_Rev to_Rev nm_Rev (hK.2 _ mn_615).2 2 rfl rfl (by decide +kernel) rfl rfl (Nat.le_of_ble_eq_true rfl) rfl dc_Host_reverse_46 ?_
      exact gw_vret (w := [(h, .inr (2, [.ref h1, .ref h2, .ref h3, .int (sd - 1)])), (h1, .inl (cA 1, 8, .inr (.inl (vp_updL b (Int32.toNatClampNeg va) ((b (Int32.toNatClampNeg va)) + (Int32.toInt64 vm)))))), (hv, .inr (6, [.int vn, .int va, .int vm, .int 0]))]) S g_r g_k  [0, 1, 2] rfl (by decide) ⟨(by simp only [f_Host_reverse_standing, f_Host_reverse_1, f_Host_reverse_isDue, if_neg c_1, if_neg c_3]), (by simp only [f_Host_reverse_standing, f_Host_reverse_1, f_Host_reverse_isDue, if_neg c_1, if_neg c_3])⟩ dc_Host_reverse_49
