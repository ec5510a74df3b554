theorem bo_ite {c : Prop} [Decidable c] {a b : Int32} (ha : a = 0 ∨ a = 1) (hb : b = 0 ∨ b = 1) : (if c then a else b) = 0 ∨ (if c then a else b) = 1 := by
  split
  · exact ha
  · exact hb
theorem z_cx {y : Int32} (h : y = 0 ∨ y = 1) : narrow .boolean (.int y) = .int y := by
  rcases h with rfl | rfl <;> rfl
/-- the array classes: int, long, boolean, Card, Object -/
abbrev cs_T (cA : Nat → ClassId) : List (ClassId × FieldType) := [(cA 0, .int), (cA 1, .long), (cA 2, .boolean), (cA 3, .object "PayChain$Card"), (cA 4, .object "java/lang/Object")]
abbrev ct_R (l : Launch) (D : va_G) (cA : Nat → ClassId) (y : MethodName) (cd : Cond) (lv : Nat) (av : List Value) (w : va_W) (post : Option Value → Prop) : Prop := Met l y (cd :: bw_B) { frames := lv, cells := 0, slots := 0, locals := 60 * lv } (gw_PR D cs_L (cs_T cA) bw_N av w) (gw_QR post) 0 0 (fun _ => False)
abbrev ct_M (l : Launch) (D : va_G) (cA : Nat → ClassId) (y : MethodName) (cd : Cond) (lv mc ms sz : Nat) (av : List Value) (w : va_W) (post : Option Value → va_W → Prop) : Prop := Met l y (cd :: bw_B) { frames := lv, cells := mc, slots := ms, locals := 60 * lv } (gw_P D cs_L (cs_T cA) bw_N av w sz) (gw_Q D cs_L (va_A w sz) post) mc ms (va_A w sz)
/-- a row's length is within its room -/
def rw_ok (n : Int32) (N : Nat) : Prop := 0 ≤ n.toInt ∧ n.toInt ≤ N ∧ N < 2 ^ 31
theorem rw_in {n i : Int32} {N : Nat} (h : rw_ok n N) (h0 : ¬ i < 0) (h1 : ¬ n ≤ i) : vp_in i N := by
  rw [vp_in_iff]
  rw [Int32.lt_iff_toInt_lt, Int32.toInt_zero] at h0
  rw [Int32.le_iff_toInt_le] at h1
  have := h.2.1
  omega
theorem rw_add {n : Int32} {N : Nat} (h : rw_ok n N) (h1 : n < Int32.ofNat N) : vp_in n N := by
  rw [vp_in_iff]
  have e : (Int32.ofNat N).toInt = N := nI_toInt h.2.2
  rw [Int32.lt_iff_toInt_lt, e] at h1
  have := h.1
  omega
def f_PC_isWithin (x : Int32) (a : Int32) (b : Int32) : Int32 := if x < a then 0 else (if b < x then 0 else (1))
theorem b_PC_isWithin (x : Int32) (a : Int32) (b : Int32) : f_PC_isWithin x a b = 0 ∨ f_PC_isWithin x a b = 1 := by
  unfold f_PC_isWithin
  exact (bo_ite (Or.inl rfl) (bo_ite (Or.inl rfl) (Or.inr rfl)))
set_option maxRecDepth 100000 in
set_option maxHeartbeats 4000000 in
theorem c_PC_isWithin (l : Launch) (D : va_G) (cA : Nat → ClassId) (x : Int32) (a : Int32) (b : Int32)  : ct_R l D cA yn_PC_isWithin cd_PC_isWithin 1 [.int x, .int a, .int b] [] (fun v_ => v_ = some (.int (f_PC_isWithin x a b))) := by
  refine gw_metR (by decide) rfl (Nat.le_of_ble_eq_true rfl) ?_
  intro p_ e_ s_ m_ args_ below_ meth_ c_ S g_r g_k hK
  refine gw_eq (ws' := []) (lv' := [(0, .int x), (1, .int a), (2, .int b)]) (st' := []) (pc' := 0) rfl rfl rfl rfl ?_
  refine gw_iload_n S dc_PC_isWithin_0 rfl 0 rfl ?_
  refine gw_iload_n S dc_PC_isWithin_1 rfl 1 rfl ?_
  refine gw_icmp_lt (tgt := 14) S dc_PC_isWithin_2 (by decide) (fun c_1 => ?_) (fun c_1 => ?_)
  · -- taken
    refine gw_iconst (v := 0) S dc_PC_isWithin_14 (by decide) ?_
    exact gw_zretR S g_r g_k rfl (by simp only [f_PC_isWithin, if_pos c_1]) dc_PC_isWithin_15
  · -- not
    refine gw_iload_n S dc_PC_isWithin_5 rfl 0 rfl ?_
    refine gw_iload_n S dc_PC_isWithin_6 rfl 2 rfl ?_
    refine gw_icmp_gt (tgt := 14) S dc_PC_isWithin_7 (by decide) (fun c_2 => ?_) (fun c_2 => ?_)
    · -- taken
      refine gw_iconst (v := 0) S dc_PC_isWithin_14 (by decide) ?_
      exact gw_zretR S g_r g_k rfl (by simp only [f_PC_isWithin, if_neg c_1, if_pos c_2]) dc_PC_isWithin_15
    · -- not
      refine gw_iconst (v := 1) S dc_PC_isWithin_10 (by decide) ?_
      refine gw_goto (tgt := 15) S dc_PC_isWithin_11 (by decide) ?_
      exact gw_zretR S g_r g_k rfl (by simp only [f_PC_isWithin, if_neg c_1, if_neg c_2]) dc_PC_isWithin_15
def f_PC_orRefused (x : Int32) : Int32 := if x = (-1) then (-1) else (x)
set_option maxRecDepth 100000 in
set_option maxHeartbeats 4000000 in
theorem c_PC_orRefused (l : Launch) (D : va_G) (cA : Nat → ClassId) (x : Int32)  : ct_R l D cA yn_PC_orRefused cd_PC_orRefused 1 [.int x] [] (fun v_ => v_ = some (.int (f_PC_orRefused x))) := by
  refine gw_metR (by decide) rfl (Nat.le_of_ble_eq_true rfl) ?_
  intro p_ e_ s_ m_ args_ below_ meth_ c_ S g_r g_k hK
  refine gw_eq (ws' := []) (lv' := [(0, .int x)]) (st' := []) (pc' := 0) rfl rfl rfl rfl ?_
  refine gw_iload_n S dc_PC_orRefused_0 rfl 0 rfl ?_
  refine gw_iconst (v := -1) S dc_PC_orRefused_1 (by decide) ?_
  refine gw_icmp_ne (tgt := 9) S dc_PC_orRefused_2 (by decide) (fun c_1 => ?_) (fun c_1 => ?_)
  · -- taken
    refine gw_iload_n S dc_PC_orRefused_9 rfl 0 rfl ?_
    exact gw_iretR S g_r g_k  (by simp only [f_PC_orRefused, if_neg c_1]) dc_PC_orRefused_10
  · -- not
    refine gw_iconst (v := -1) S dc_PC_orRefused_5 (by decide) ?_
    refine gw_goto (tgt := 10) S dc_PC_orRefused_6 (by decide) ?_
    exact gw_iretR S g_r g_k  (by simp only [f_PC_orRefused, if_pos c_1]) dc_PC_orRefused_10
def f_Mac_grow (x : Int32) (b : Int32) : Int32 := ((x ^^^ b) * 16777619) ^^^ ((((x ^^^ b) * 16777619).toUInt32 >>> (Int32.toUInt32 13 &&& Int32.toUInt32 31)).toInt32)
set_option maxRecDepth 100000 in
set_option maxHeartbeats 4000000 in
theorem c_Mac_grow (l : Launch) (D : va_G) (cA : Nat → ClassId) (x : Int32) (b : Int32)  : ct_R l D cA yn_Mac_grow cd_Mac_grow 1 [.int x, .int b] [] (fun v_ => v_ = some (.int (f_Mac_grow x b))) := by
  refine gw_metR (by decide) rfl (Nat.le_of_ble_eq_true rfl) ?_
  intro p_ e_ s_ m_ args_ below_ meth_ c_ S g_r g_k hK
  refine gw_eq (ws' := []) (lv' := [(0, .int x), (1, .int b)]) (st' := []) (pc' := 0) rfl rfl rfl rfl ?_
  refine gw_iload_n S dc_Mac_grow_0 rfl 0 rfl ?_
  refine gw_iload_n S dc_Mac_grow_1 rfl 1 rfl ?_
  refine gw_ixor S dc_Mac_grow_2 ?_
  refine gw_ldc (v := 16777619) S (gw_lk S mw_562) dc_Mac_grow_3 ?_
  refine gw_imul S dc_Mac_grow_5 ?_
  refine gw_istore_n (lv' := [(2, .int ((x ^^^ b) * 16777619)), (0, .int x), (1, .int b)]) S dc_Mac_grow_6 rfl (by decide) rfl ?_
  refine gw_iload_n S dc_Mac_grow_7 rfl 0 rfl ?_
  refine gw_iload_n S dc_Mac_grow_8 rfl 0 rfl ?_
  refine gw_bipush (v := 13) S dc_Mac_grow_9 (by decide) ?_
  refine gw_iushr S dc_Mac_grow_11 rfl ?_
  refine gw_ixor S dc_Mac_grow_12 ?_
  exact gw_iretR S g_r g_k  (by simp only [f_Mac_grow]) dc_Mac_grow_13
def f_Tag_bytesOf (t : Int32) : Int32 := if t ≤ 255 then 1 else (2)
set_option maxRecDepth 100000 in
set_option maxHeartbeats 4000000 in
theorem c_Tag_bytesOf (l : Launch) (D : va_G) (cA : Nat → ClassId) (t : Int32)  : ct_R l D cA yn_Tag_bytesOf cd_Tag_bytesOf 1 [.int t] [] (fun v_ => v_ = some (.int (f_Tag_bytesOf t))) := by
  refine gw_metR (by decide) rfl (Nat.le_of_ble_eq_true rfl) ?_
  intro p_ e_ s_ m_ args_ below_ meth_ c_ S g_r g_k hK
  refine gw_eq (ws' := []) (lv' := [(0, .int t)]) (st' := []) (pc' := 0) rfl rfl rfl rfl ?_
  refine gw_iload_n S dc_Tag_bytesOf_0 rfl 0 rfl ?_
  refine gw_sipush (v := 255) S dc_Tag_bytesOf_1 (by decide) ?_
  refine gw_icmp_le (tgt := 11) S dc_Tag_bytesOf_4 (by decide) (fun c_1 => ?_) (fun c_1 => ?_)
  · -- taken
    refine gw_iconst (v := 1) S dc_Tag_bytesOf_11 (by decide) ?_
    exact gw_iretR S g_r g_k  (by simp only [f_Tag_bytesOf, if_pos c_1]) dc_Tag_bytesOf_12
  · -- not
    refine gw_iconst (v := 2) S dc_Tag_bytesOf_7 (by decide) ?_
    refine gw_goto (tgt := 12) S dc_Tag_bytesOf_8 (by decide) ?_
    exact gw_iretR S g_r g_k  (by simp only [f_Tag_bytesOf, if_neg c_1]) dc_Tag_bytesOf_12
def f_Tag_hasInner (t : Int32) : Int32 := if t ≤ 255 then (if (t &&& 32) = 0 then 0 else (1)) else (if ((t / 256) &&& 32) = 0 then 0 else (1))
theorem b_Tag_hasInner (t : Int32) : f_Tag_hasInner t = 0 ∨ f_Tag_hasInner t = 1 := by
  unfold f_Tag_hasInner
  exact (bo_ite (bo_ite (Or.inl rfl) (Or.inr rfl)) (bo_ite (Or.inl rfl) (Or.inr rfl)))
set_option maxRecDepth 100000 in
set_option maxHeartbeats 4000000 in
theorem c_Tag_hasInner (l : Launch) (D : va_G) (cA : Nat → ClassId) (t : Int32)  : ct_R l D cA yn_Tag_hasInner cd_Tag_hasInner 1 [.int t] [] (fun v_ => v_ = some (.int (f_Tag_hasInner t))) := by
  refine gw_metR (by decide) rfl (Nat.le_of_ble_eq_true rfl) ?_
  intro p_ e_ s_ m_ args_ below_ meth_ c_ S g_r g_k hK
  refine gw_eq (ws' := []) (lv' := [(0, .int t)]) (st' := []) (pc' := 0) rfl rfl rfl rfl ?_
  refine gw_iload_n S dc_Tag_hasInner_0 rfl 0 rfl ?_
  refine gw_sipush (v := 255) S dc_Tag_hasInner_1 (by decide) ?_
  refine gw_icmp_le (tgt := 15) S dc_Tag_hasInner_4 (by decide) (fun c_1 => ?_) (fun c_1 => ?_)
  · -- taken
    refine gw_iload_n S dc_Tag_hasInner_15 rfl 0 rfl ?_
    refine gw_istore_n (lv' := [(1, .int t), (0, .int t)]) S dc_Tag_hasInner_16 rfl (by decide) rfl ?_
    refine gw_iload_n S dc_Tag_hasInner_17 rfl 0 rfl ?_
    refine gw_bipush (v := 32) S dc_Tag_hasInner_18 (by decide) ?_
    refine gw_iand S dc_Tag_hasInner_20 ?_
    refine gw_if_eq (tgt := 28) S dc_Tag_hasInner_21 (by decide) (fun c_2 => ?_) (fun c_2 => ?_)
    · -- taken
      refine gw_iconst (v := 0) S dc_Tag_hasInner_28 (by decide) ?_
      exact gw_zretR S g_r g_k rfl (by simp only [f_Tag_hasInner, if_pos c_1, if_pos c_2]) dc_Tag_hasInner_29
    · -- not
      refine gw_iconst (v := 1) S dc_Tag_hasInner_24 (by decide) ?_
      refine gw_goto (tgt := 29) S dc_Tag_hasInner_25 (by decide) ?_
      exact gw_zretR S g_r g_k rfl (by simp only [f_Tag_hasInner, if_pos c_1, if_neg c_2]) dc_Tag_hasInner_29
  · -- not
    refine gw_iload_n S dc_Tag_hasInner_7 rfl 0 rfl ?_
    refine gw_sipush (v := 256) S dc_Tag_hasInner_8 (by decide) ?_
    refine gw_idiv S dc_Tag_hasInner_11 (by decide) ?_
    refine gw_goto (tgt := 16) S dc_Tag_hasInner_12 (by decide) ?_
    refine gw_istore_n (lv' := [(1, .int (t / 256)), (0, .int t)]) S dc_Tag_hasInner_16 rfl (by decide) rfl ?_
    refine gw_iload_n S dc_Tag_hasInner_17 rfl 0 rfl ?_
    refine gw_bipush (v := 32) S dc_Tag_hasInner_18 (by decide) ?_
    refine gw_iand S dc_Tag_hasInner_20 ?_
    refine gw_if_eq (tgt := 28) S dc_Tag_hasInner_21 (by decide) (fun c_3 => ?_) (fun c_3 => ?_)
    · -- taken
      refine gw_iconst (v := 0) S dc_Tag_hasInner_28 (by decide) ?_
      exact gw_zretR S g_r g_k rfl (by simp only [f_Tag_hasInner, if_neg c_1, if_pos c_3]) dc_Tag_hasInner_29
    · -- not
      refine gw_iconst (v := 1) S dc_Tag_hasInner_24 (by decide) ?_
      refine gw_goto (tgt := 29) S dc_Tag_hasInner_25 (by decide) ?_
      exact gw_zretR S g_r g_k rfl (by simp only [f_Tag_hasInner, if_neg c_1, if_neg c_3]) dc_Tag_hasInner_29
set_option maxRecDepth 100000 in
set_option maxHeartbeats 4000000 in
theorem c_Row_length (l : Launch) (D : va_G) (cA : Nat → ClassId) (h : Nat) (hb : Nat) (n : Int32) (N : Nat) (f : Nat → Int32)  : ct_R l D cA yn_Row_length cd_Row_length 1 [.ref h] [(h, .inr (0, [.ref hb, .int n])), (hb, .inl (cA 0, N, .inl f))] (fun v_ => v_ = some (.int n)) := by
  refine gw_metR (by decide) rfl (Nat.le_of_ble_eq_true rfl) ?_
  intro p_ e_ s_ m_ args_ below_ meth_ c_ S g_r g_k hK
  refine gw_eq (ws' := [(h, .inr (0, [.ref hb, .int n])), (hb, .inl (cA 0, N, .inl f))]) (lv' := [(0, .ref h)]) (st' := []) (pc' := 0) rfl rfl rfl rfl ?_
  refine gw_aload_n S dc_Row_length_0 rfl 0 rfl ?_
  refine gw_get S hK.1 ic_Row rfl 1 (by decide) (gw_lk S mw_36) 0 rfl rfl dc_Row_length_1 ?_
  exact gw_iretR S g_r g_k  rfl dc_Row_length_4
def f_Row_at (n : Int32) (f : Nat → Int32) (i : Int32) : Int32 := if i < 0 then (-1) else (if n ≤ i then (-1) else (f (Int32.toNatClampNeg i)))
set_option maxRecDepth 100000 in
set_option maxHeartbeats 4000000 in
theorem c_Row_at (l : Launch) (D : va_G) (cA : Nat → ClassId) (h : Nat) (hb : Nat) (n : Int32) (N : Nat) (f : Nat → Int32) (i : Int32) (hN : rw_ok n N) : ct_R l D cA yn_Row_at cd_Row_at 1 [.ref h, .int i] [(h, .inr (0, [.ref hb, .int n])), (hb, .inl (cA 0, N, .inl f))] (fun v_ => v_ = some (.int (f_Row_at n f i))) := by
  refine gw_metR (by decide) rfl (Nat.le_of_ble_eq_true rfl) ?_
  intro p_ e_ s_ m_ args_ below_ meth_ c_ S g_r g_k hK
  refine gw_eq (ws' := [(h, .inr (0, [.ref hb, .int n])), (hb, .inl (cA 0, N, .inl f))]) (lv' := [(0, .ref h), (1, .int i)]) (st' := []) (pc' := 0) rfl rfl rfl rfl ?_
  refine gw_iload_n S dc_Row_at_0 rfl 1 rfl ?_
  refine gw_if_lt (tgt := 21) S dc_Row_at_1 (by decide) (fun c_1 => ?_) (fun c_1 => ?_)
  · -- taken
    refine gw_iconst (v := -1) S dc_Row_at_21 (by decide) ?_
    exact gw_iretR S g_r g_k  (by simp only [f_Row_at, if_pos c_1]) dc_Row_at_22
  · -- not
    refine gw_iload_n S dc_Row_at_4 rfl 1 rfl ?_
    refine gw_aload_n S dc_Row_at_5 rfl 0 rfl ?_
    refine gw_get S hK.1 ic_Row rfl 1 (by decide) (gw_lk S mw_36) 0 rfl rfl dc_Row_at_6 ?_
    refine gw_icmp_ge (tgt := 21) S dc_Row_at_9 (by decide) (fun c_2 => ?_) (fun c_2 => ?_)
    · -- taken
      refine gw_iconst (v := -1) S dc_Row_at_21 (by decide) ?_
      exact gw_iretR S g_r g_k  (by simp only [f_Row_at, if_neg c_1, if_pos c_2]) dc_Row_at_22
    · -- not
      refine gw_aload_n S dc_Row_at_12 rfl 0 rfl ?_
      refine gw_get S hK.1 ic_Row rfl 0 (by decide) (gw_lk S mw_35) 0 rfl rfl dc_Row_at_13 ?_
      refine gw_iload_n S dc_Row_at_16 rfl 1 rfl ?_
      refine gw_iald S hK.1 1 0 rfl rfl (rw_in hN c_1 c_2) dc_Row_at_17 ?_
      refine gw_goto (tgt := 22) S dc_Row_at_18 (by decide) ?_
      exact gw_iretR S g_r g_k  (by simp only [f_Row_at, if_neg c_1, if_neg c_2]) dc_Row_at_22
def f_Row_atBefore (n : Int32) (f : Nat → Int32) (i : Int32) (en : Int32) : Int32 := if i < 0 then (-1) else (if en ≤ i then (-1) else (if n ≤ i then (-1) else (f (Int32.toNatClampNeg i))))
set_option maxRecDepth 100000 in
set_option maxHeartbeats 4000000 in
theorem c_Row_atBefore (l : Launch) (D : va_G) (cA : Nat → ClassId) (h : Nat) (hb : Nat) (n : Int32) (N : Nat) (f : Nat → Int32) (i : Int32) (en : Int32) (hN : rw_ok n N) : ct_R l D cA yn_Row_atBefore cd_Row_atBefore 1 [.ref h, .int i, .int en] [(h, .inr (0, [.ref hb, .int n])), (hb, .inl (cA 0, N, .inl f))] (fun v_ => v_ = some (.int (f_Row_atBefore n f i en))) := by
  refine gw_metR (by decide) rfl (Nat.le_of_ble_eq_true rfl) ?_
  intro p_ e_ s_ m_ args_ below_ meth_ c_ S g_r g_k hK
  refine gw_eq (ws' := [(h, .inr (0, [.ref hb, .int n])), (hb, .inl (cA 0, N, .inl f))]) (lv' := [(0, .ref h), (1, .int i), (2, .int en)]) (st' := []) (pc' := 0) rfl rfl rfl rfl ?_
  refine gw_iload_n S dc_Row_atBefore_0 rfl 1 rfl ?_
  refine gw_if_lt (tgt := 26) S dc_Row_atBefore_1 (by decide) (fun c_1 => ?_) (fun c_1 => ?_)
  · -- taken
    refine gw_iconst (v := -1) S dc_Row_atBefore_26 (by decide) ?_
    exact gw_iretR S g_r g_k  (by simp only [f_Row_atBefore, if_pos c_1]) dc_Row_atBefore_27
  · -- not
    refine gw_iload_n S dc_Row_atBefore_4 rfl 1 rfl ?_
    refine gw_iload_n S dc_Row_atBefore_5 rfl 2 rfl ?_
    refine gw_icmp_ge (tgt := 26) S dc_Row_atBefore_6 (by decide) (fun c_2 => ?_) (fun c_2 => ?_)
    · -- taken
      refine gw_iconst (v := -1) S dc_Row_atBefore_26 (by decide) ?_
      exact gw_iretR S g_r g_k  (by simp only [f_Row_atBefore, if_neg c_1, if_pos c_2]) dc_Row_atBefore_27
    · -- not
      refine gw_iload_n S dc_Row_atBefore_9 rfl 1 rfl ?_
      refine gw_aload_n S dc_Row_atBefore_10 rfl 0 rfl ?_
      refine gw_get S hK.1 ic_Row rfl 1 (by decide) (gw_lk S mw_36) 0 rfl rfl dc_Row_atBefore_11 ?_
      refine gw_icmp_ge (tgt := 26) S dc_Row_atBefore_14 (by decide) (fun c_3 => ?_) (fun c_3 => ?_)
      · -- taken
        refine gw_iconst (v := -1) S dc_Row_atBefore_26 (by decide) ?_
        exact gw_iretR S g_r g_k  (by simp only [f_Row_atBefore, if_neg c_1, if_neg c_2, if_pos c_3]) dc_Row_atBefore_27
      · -- not
        refine gw_aload_n S dc_Row_atBefore_17 rfl 0 rfl ?_
        refine gw_get S hK.1 ic_Row rfl 0 (by decide) (gw_lk S mw_35) 0 rfl rfl dc_Row_atBefore_18 ?_
        refine gw_iload_n S dc_Row_atBefore_21 rfl 1 rfl ?_
        refine gw_iald S hK.1 1 0 rfl rfl (rw_in hN c_1 c_3) dc_Row_atBefore_22 ?_
        refine gw_goto (tgt := 27) S dc_Row_atBefore_23 (by decide) ?_
        exact gw_iretR S g_r g_k  (by simp only [f_Row_atBefore, if_neg c_1, if_neg c_2, if_neg c_3]) dc_Row_atBefore_27
set_option maxRecDepth 100000 in
set_option maxHeartbeats 4000000 in
theorem c_Row_clear (l : Launch) (D : va_G) (cA : Nat → ClassId) (sz : Nat) (h : Nat) (hb : Nat) (n : Int32) (N : Nat) (f : Nat → Int32)  : ct_M l D cA yn_Row_clear cd_Row_clear 1 0 0 sz [.ref h] [(h, .inr (0, [.ref hb, .int n])), (hb, .inl (cA 0, N, .inl f))] (fun v_ w_ => v_ = none ∧ w_ = [(h, .inr (0, [.ref hb, .int 0])), (hb, .inl (cA 0, N, .inl f))]) := by
  refine gw_met (by decide) rfl (Nat.le_of_ble_eq_true rfl) ?_
  intro p_ e_ s_ m_ args_ below_ meth_ c_ A_ S g_r g_k g_n hK hA
  refine gw_eq (ws' := [(h, .inr (0, [.ref hb, .int n])), (hb, .inl (cA 0, N, .inl f))]) (lv' := [(0, .ref h)]) (st' := []) (pc' := 0) rfl rfl rfl rfl ?_
  refine gw_aload_n S dc_Row_clear_0 rfl 0 rfl ?_
  refine gw_iconst (v := 0) S dc_Row_clear_1 (by decide) ?_
  refine gw_put (ws' := [(h, .inr (0, [.ref hb, .int 0])), (hb, .inl (cA 0, N, .inl f))]) (ty := .int) S hK.1 ic_Row rfl 1 (by decide) ty_Row to_Row nm_Row (gw_lk S mw_36) 0 rfl rfl (by decide +kernel) rfl rfl (Nat.le_of_ble_eq_true rfl) rfl dc_Row_clear_2 ?_
  exact gw_vret (w := [(h, .inr (0, [.ref hb, .int 0])), (hb, .inl (cA 0, N, .inl f))]) S g_r g_k  [0, 1] rfl (by decide) ⟨rfl, rfl⟩ dc_Row_clear_5
def f_Row_add (n : Int32) (N : Nat) : Int32 := if n < (Int32.ofNat N) then 1 else (0)
def f_Row_add_length (n : Int32) (N : Nat) : Int32 := if n < (Int32.ofNat N) then (n + 1) else (n)
def f_Row_add_1 (n : Int32) (N : Nat) (f : Nat → Int32) (b : Int32) : Nat → Int32 := if n < (Int32.ofNat N) then (upd f (Int32.toNatClampNeg n) b) else (f)
theorem b_Row_add (n : Int32) (N : Nat) : f_Row_add n N = 0 ∨ f_Row_add n N = 1 := by
  unfold f_Row_add
  exact (bo_ite (Or.inr rfl) (Or.inl rfl))
set_option maxRecDepth 100000 in
set_option maxHeartbeats 4000000 in
theorem c_Row_add (l : Launch) (D : va_G) (cA : Nat → ClassId) (sz : Nat) (h : Nat) (hb : Nat) (n : Int32) (N : Nat) (f : Nat → Int32) (b : Int32) (hN : rw_ok n N) : ct_M l D cA yn_Row_add cd_Row_add 1 0 0 sz [.ref h, .int b] [(h, .inr (0, [.ref hb, .int n])), (hb, .inl (cA 0, N, .inl f))] (fun v_ w_ => v_ = some (.int (f_Row_add n N)) ∧ w_ = [(h, .inr (0, [.ref hb, .int (f_Row_add_length n N)])), (hb, .inl (cA 0, N, .inl (f_Row_add_1 n N f b)))]) := by
  refine gw_met (by decide) rfl (Nat.le_of_ble_eq_true rfl) ?_
  intro p_ e_ s_ m_ args_ below_ meth_ c_ A_ S g_r g_k g_n hK hA
  refine gw_eq (ws' := [(h, .inr (0, [.ref hb, .int n])), (hb, .inl (cA 0, N, .inl f))]) (lv' := [(0, .ref h), (1, .int b)]) (st' := []) (pc' := 0) rfl rfl rfl rfl ?_
  refine gw_aload_n S dc_Row_add_0 rfl 0 rfl ?_
  refine gw_get S hK.1 ic_Row rfl 1 (by decide) (gw_lk S mw_36) 0 rfl rfl dc_Row_add_1 ?_
  refine gw_aload_n S dc_Row_add_4 rfl 0 rfl ?_
  refine gw_get S hK.1 ic_Row rfl 0 (by decide) (gw_lk S mw_35) 0 rfl rfl dc_Row_add_5 ?_
  refine gw_alen (v := Int32.ofNat N) S hK.1 1 0 rfl rfl rfl dc_Row_add_8 ?_
  refine gw_icmp_lt (tgt := 14) S dc_Row_add_9 (by decide) (fun c_1 => ?_) (fun c_1 => ?_)
  · -- taken
    refine gw_aload_n S dc_Row_add_14 rfl 0 rfl ?_
    refine gw_get S hK.1 ic_Row rfl 0 (by decide) (gw_lk S mw_35) 0 rfl rfl dc_Row_add_15 ?_
    refine gw_aload_n S dc_Row_add_18 rfl 0 rfl ?_
    refine gw_get S hK.1 ic_Row rfl 1 (by decide) (gw_lk S mw_36) 0 rfl rfl dc_Row_add_19 ?_
    refine gw_iload_n S dc_Row_add_22 rfl 1 rfl ?_
    refine gw_iast (ws' := [(h, .inr (0, [.ref hb, .int n])), (hb, .inl (cA 0, N, .inl (upd f (Int32.toNatClampNeg n) b)))]) S hK.1 1 0 rfl rfl (rw_add hN c_1) rfl dc_Row_add_23 ?_
    refine gw_aload_n S dc_Row_add_24 rfl 0 rfl ?_
    refine gw_dup S dc_Row_add_25 rfl ?_
    refine gw_get S hK.1 ic_Row rfl 1 (by decide) (gw_lk S mw_36) 0 rfl rfl dc_Row_add_26 ?_
    refine gw_iconst (v := 1) S dc_Row_add_29 (by decide) ?_
    refine gw_iadd S dc_Row_add_30 ?_
    refine gw_put (ws' := [(h, .inr (0, [.ref hb, .int (n + 1)])), (hb, .inl (cA 0, N, .inl (upd f (Int32.toNatClampNeg n) b)))]) (ty := .int) S hK.1 ic_Row rfl 1 (by decide) ty_Row to_Row nm_Row (gw_lk S mw_36) 0 rfl rfl (by decide +kernel) rfl rfl (Nat.le_of_ble_eq_true rfl) rfl dc_Row_add_31 ?_
    refine gw_iconst (v := 1) S dc_Row_add_34 (by decide) ?_
    exact gw_zret (w := [(h, .inr (0, [.ref hb, .int (n + 1)])), (hb, .inl (cA 0, N, .inl (upd f (Int32.toNatClampNeg n) b)))]) S g_r g_k rfl [0, 1] rfl (by decide) ⟨(by simp only [f_Row_add, f_Row_add_length, f_Row_add_1, if_pos c_1]), (by simp only [f_Row_add, f_Row_add_length, f_Row_add_1, if_pos c_1])⟩ dc_Row_add_35
  · -- not
    refine gw_iconst (v := 0) S dc_Row_add_12 (by decide) ?_
    exact gw_zret (w := [(h, .inr (0, [.ref hb, .int n])), (hb, .inl (cA 0, N, .inl f))]) S g_r g_k rfl [0, 1] rfl (by decide) ⟨(by simp only [f_Row_add, f_Row_add_length, f_Row_add_1, if_neg c_1]), (by simp only [f_Row_add, f_Row_add_length, f_Row_add_1, if_neg c_1])⟩ dc_Row_add_13
def f_Tag_read (n : Int32) (f : Nat → Int32) (i : Int32) (en : Int32) : Int32 := if (f_Row_atBefore n f i en) = (-1) then (f_Row_atBefore n f i en) else (if ((f_Row_atBefore n f i en) &&& 31) = 31 then (if (f_PC_isWithin (f_Row_atBefore n f (i + 1) en) 0 127) = 0 then (-1) else ((256 * (f_Row_atBefore n f i en)) + (f_Row_atBefore n f (i + 1) en))) else (f_Row_atBefore n f i en))
set_option maxRecDepth 100000 in
set_option maxHeartbeats 4000000 in
theorem c_Tag_read (l : Launch) (D : va_G) (cA : Nat → ClassId) (h : Nat) (hb : Nat) (n : Int32) (N : Nat) (f : Nat → Int32) (i : Int32) (en : Int32) (hN : rw_ok n N) : ct_R l D cA yn_Tag_read cd_Tag_read 2 [.ref h, .int i, .int en] [(h, .inr (0, [.ref hb, .int n])), (hb, .inl (cA 0, N, .inl f))] (fun v_ => v_ = some (.int (f_Tag_read n f i en))) := by
  refine gw_metR (by decide) rfl (Nat.le_of_ble_eq_true rfl) ?_
  intro p_ e_ s_ m_ args_ below_ meth_ c_ S g_r g_k hK
  refine gw_eq (ws' := [(h, .inr (0, [.ref hb, .int n])), (hb, .inl (cA 0, N, .inl f))]) (lv' := [(0, .ref h), (1, .int i), (2, .int en)]) (st' := []) (pc' := 0) rfl rfl rfl rfl ?_
  refine gw_aload_n S dc_Tag_read_0 rfl 0 rfl ?_
  refine gw_iload_n S dc_Tag_read_1 rfl 1 rfl ?_
  refine gw_iload_n S dc_Tag_read_2 rfl 2 rfl ?_
  refine gw_callVR (As := [.int i, .int en]) (st := []) S hK (c_Row_atBefore l D cA h hb n N f i en (by assumption)) (cw_Tag_9 S.2.2.2.2 rfl rfl ⟨Nat.le_of_ble_eq_true rfl, Nat.le_of_ble_eq_true rfl⟩) [0, 1] rfl (by decide) 0 rfl rfl rfl rfl rfl (Nat.le_of_ble_eq_true rfl) dc_Tag_read_3 ⟨Nat.le_of_ble_eq_true rfl, Nat.le_of_ble_eq_true rfl⟩ ?_
  rintro _ rfl
  refine gw_eq (ws' := [(h, .inr (0, [.ref hb, .int n])), (hb, .inl (cA 0, N, .inl f))]) (lv' := [(0, .ref h), (1, .int i), (2, .int en)]) (st' := [.int (f_Row_atBefore n f i en)]) (pc' := 6) rfl rfl rfl rfl ?_
  refine gw_istore_n (lv' := [(3, .int (f_Row_atBefore n f i en)), (0, .ref h), (1, .int i), (2, .int en)]) S dc_Tag_read_6 rfl (by decide) rfl ?_
  refine gw_iload_n S dc_Tag_read_7 rfl 0 rfl ?_
  refine gw_iconst (v := -1) S dc_Tag_read_8 (by decide) ?_
  refine gw_icmp_eq (tgt := 21) S dc_Tag_read_9 (by decide) (fun c_2 => ?_) (fun c_2 => ?_)
  · -- taken
    refine gw_iload_n S dc_Tag_read_21 rfl 0 rfl ?_
    exact gw_iretR S g_r g_k  (by simp only [f_Tag_read, if_pos c_2]) dc_Tag_read_22
  · -- not
    refine gw_iload_n S dc_Tag_read_12 rfl 0 rfl ?_
    refine gw_bipush (v := 31) S dc_Tag_read_13 (by decide) ?_
    refine gw_iand S dc_Tag_read_15 ?_
    refine gw_bipush (v := 31) S dc_Tag_read_16 (by decide) ?_
    refine gw_icmp_eq (tgt := 23) S dc_Tag_read_18 (by decide) (fun c_3 => ?_) (fun c_3 => ?_)
    · -- taken
      refine gw_aload_n S dc_Tag_read_23 rfl 1 rfl ?_
      refine gw_iload_n S dc_Tag_read_24 rfl 2 rfl ?_
      refine gw_iconst (v := 1) S dc_Tag_read_25 (by decide) ?_
      refine gw_iadd S dc_Tag_read_26 ?_
      refine gw_iload_n S dc_Tag_read_27 rfl 3 rfl ?_
      refine gw_callVR (As := [.int (i + 1), .int en]) (st := []) S hK (c_Row_atBefore l D cA h hb n N f (i + 1) en (by assumption)) (cw_Tag_9 S.2.2.2.2 rfl rfl ⟨Nat.le_of_ble_eq_true rfl, Nat.le_of_ble_eq_true rfl⟩) [0, 1] rfl (by decide) 0 rfl rfl rfl rfl rfl (Nat.le_of_ble_eq_true rfl) dc_Tag_read_28 ⟨Nat.le_of_ble_eq_true rfl, Nat.le_of_ble_eq_true rfl⟩ ?_
      rintro _ rfl
      refine gw_eq (ws' := [(h, .inr (0, [.ref hb, .int n])), (hb, .inl (cA 0, N, .inl f))]) (lv' := [(3, .int (f_Row_atBefore n f i en)), (0, .ref h), (1, .int i), (2, .int en)]) (st' := [.int (f_Row_atBefore n f (i + 1) en)]) (pc' := 31) rfl rfl rfl rfl ?_
      refine gw_istore (lv' := [(4, .int (f_Row_atBefore n f (i + 1) en)), (3, .int (f_Row_atBefore n f i en)), (0, .ref h), (1, .int i), (2, .int en)]) S dc_Tag_read_31 (by decide) rfl ?_
      refine gw_iload S dc_Tag_read_33 0 rfl ?_
      refine gw_iconst (v := 0) S dc_Tag_read_35 (by decide) ?_
      refine gw_bipush (v := 127) S dc_Tag_read_36 (by decide) ?_
      refine gw_callSNR (As := [.int (f_Row_atBefore n f (i + 1) en), .int 0, .int 127]) (st := []) S hK (c_PC_isWithin l D cA (f_Row_atBefore n f (i + 1) en) 0 127 ) (cw_Tag_17 S.2.2.2.2 rfl rfl ⟨Nat.le_of_ble_eq_true rfl, Nat.le_of_ble_eq_true rfl⟩ (hK.2 _ mn_326).2) [] rfl (by decide) rfl rfl (Nat.le_of_ble_eq_true rfl) dc_Tag_read_38 ⟨Nat.le_of_ble_eq_true rfl, Nat.le_of_ble_eq_true rfl⟩ ?_
      rintro _ rfl
      refine gw_eq (ws' := [(h, .inr (0, [.ref hb, .int n])), (hb, .inl (cA 0, N, .inl f))]) (lv' := [(4, .int (f_Row_atBefore n f (i + 1) en)), (3, .int (f_Row_atBefore n f i en)), (0, .ref h), (1, .int i), (2, .int en)]) (st' := [.int (f_PC_isWithin (f_Row_atBefore n f (i + 1) en) 0 127)]) (pc' := 41) rfl rfl rfl rfl ?_
      refine gw_if_eq (tgt := 55) S dc_Tag_read_41 (by decide) (fun c_6 => ?_) (fun c_6 => ?_)
      · -- taken
        refine gw_iconst (v := -1) S dc_Tag_read_55 (by decide) ?_
        exact gw_iretR S g_r g_k  (by simp only [f_Tag_read, if_neg c_2, if_pos c_3, if_pos c_6]) dc_Tag_read_56
      · -- not
        refine gw_sipush (v := 256) S dc_Tag_read_44 (by decide) ?_
        refine gw_iload_n S dc_Tag_read_47 rfl 1 rfl ?_
        refine gw_imul S dc_Tag_read_48 ?_
        refine gw_iload S dc_Tag_read_49 0 rfl ?_
        refine gw_iadd S dc_Tag_read_51 ?_
        refine gw_goto (tgt := 56) S dc_Tag_read_52 (by decide) ?_
        exact gw_iretR S g_r g_k  (by simp only [f_Tag_read, if_neg c_2, if_pos c_3, if_neg c_6]) dc_Tag_read_56
    · -- not
      refine gw_iload_n S dc_Tag_read_21 rfl 0 rfl ?_
      exact gw_iretR S g_r g_k  (by simp only [f_Tag_read, if_neg c_2, if_neg c_3]) dc_Tag_read_22
def f_Mac_seal (k : Int32) (cd : Int32) (cg : Int32) : Int32 := f_Mac_grow (f_Mac_grow (f_Mac_grow (f_Mac_grow (f_Mac_grow k cd) (((cg.toUInt32 >>> (Int32.toUInt32 24 &&& Int32.toUInt32 31)).toInt32) &&& 255)) (((cg.toUInt32 >>> (Int32.toUInt32 16 &&& Int32.toUInt32 31)).toInt32) &&& 255)) (((cg.toUInt32 >>> (Int32.toUInt32 8 &&& Int32.toUInt32 31)).toInt32) &&& 255)) (((cg.toUInt32 >>> (Int32.toUInt32 0 &&& Int32.toUInt32 31)).toInt32) &&& 255)
set_option maxRecDepth 100000 in
set_option maxHeartbeats 4000000 in
theorem c_Mac_seal (l : Launch) (D : va_G) (cA : Nat → ClassId) (k : Int32) (cd : Int32) (cg : Int32)  : ct_R l D cA yn_Mac_seal cd_Mac_seal 2 [.int k, .int cd, .int cg] [] (fun v_ => v_ = some (.int (f_Mac_seal k cd cg))) := by
  refine gw_metR (by decide) rfl (Nat.le_of_ble_eq_true rfl) ?_
  intro p_ e_ s_ m_ args_ below_ meth_ c_ S g_r g_k hK
  refine gw_eq (ws' := []) (lv' := [(0, .int k), (1, .int cd), (2, .int cg)]) (st' := []) (pc' := 0) rfl rfl rfl rfl ?_
  refine gw_iload_n S dc_Mac_seal_0 rfl 0 rfl ?_
  refine gw_iload_n S dc_Mac_seal_1 rfl 1 rfl ?_
  refine gw_callSR (As := [.int k, .int cd]) (st := []) S hK (c_Mac_grow l D cA k cd ) (cw_Mac_12 S.2.2.2.2 rfl rfl ⟨Nat.le_of_ble_eq_true rfl, Nat.le_of_ble_eq_true rfl⟩) [] rfl (by decide) rfl rfl (Nat.le_of_ble_eq_true rfl) dc_Mac_seal_2 ⟨Nat.le_of_ble_eq_true rfl, Nat.le_of_ble_eq_true rfl⟩ ?_
  rintro _ rfl
  refine gw_eq (ws' := []) (lv' := [(0, .int k), (1, .int cd), (2, .int cg)]) (st' := [.int (f_Mac_grow k cd)]) (pc' := 5) rfl rfl rfl rfl ?_
  refine gw_istore_n (lv' := [(3, .int (f_Mac_grow k cd)), (0, .int k), (1, .int cd), (2, .int cg)]) S dc_Mac_seal_5 rfl (by decide) rfl ?_
  refine gw_bipush (v := 24) S dc_Mac_seal_6 (by decide) ?_
  refine gw_istore (lv' := [(4, .int 24), (3, .int (f_Mac_grow k cd)), (0, .int k), (1, .int cd), (2, .int cg)]) S dc_Mac_seal_8 (by decide) rfl ?_
  refine gw_iload S dc_Mac_seal_10 0 rfl ?_
  refine gw_if_lt (tgt := 34) S dc_Mac_seal_12 (by decide) (fun c_2 => by exact absurd c_2 (by decide)) (fun c_2 => ?_)
  refine gw_iload_n S dc_Mac_seal_15 rfl 1 rfl ?_
  refine gw_iload_n S dc_Mac_seal_16 rfl 4 rfl ?_
  refine gw_iload S dc_Mac_seal_17 0 rfl ?_
  refine gw_iushr S dc_Mac_seal_19 rfl ?_
  refine gw_sipush (v := 255) S dc_Mac_seal_20 (by decide) ?_
  refine gw_iand S dc_Mac_seal_23 ?_
  refine gw_callSR (As := [.int (f_Mac_grow k cd), .int (((cg.toUInt32 >>> (Int32.toUInt32 24 &&& Int32.toUInt32 31)).toInt32) &&& 255)]) (st := []) S hK (c_Mac_grow l D cA (f_Mac_grow k cd) (((cg.toUInt32 >>> (Int32.toUInt32 24 &&& Int32.toUInt32 31)).toInt32) &&& 255) ) (cw_Mac_12 S.2.2.2.2 rfl rfl ⟨Nat.le_of_ble_eq_true rfl, Nat.le_of_ble_eq_true rfl⟩) [] rfl (by decide) rfl rfl (Nat.le_of_ble_eq_true rfl) dc_Mac_seal_24 ⟨Nat.le_of_ble_eq_true rfl, Nat.le_of_ble_eq_true rfl⟩ ?_
  rintro _ rfl
  refine gw_eq (ws' := []) (lv' := [(4, .int 24), (3, .int (f_Mac_grow k cd)), (0, .int k), (1, .int cd), (2, .int cg)]) (st' := [.int (f_Mac_grow (f_Mac_grow k cd) (((cg.toUInt32 >>> (Int32.toUInt32 24 &&& Int32.toUInt32 31)).toInt32) &&& 255))]) (pc' := 27) rfl rfl rfl rfl ?_
  refine gw_istore_n (lv' := [(3, .int (f_Mac_grow (f_Mac_grow k cd) (((cg.toUInt32 >>> (Int32.toUInt32 24 &&& Int32.toUInt32 31)).toInt32) &&& 255))), (4, .int 24), (0, .int k), (1, .int cd), (2, .int cg)]) S dc_Mac_seal_27 rfl (by decide) rfl ?_
  refine gw_iinc (v := 16) (lv' := [(4, .int 16), (3, .int (f_Mac_grow (f_Mac_grow k cd) (((cg.toUInt32 >>> (Int32.toUInt32 24 &&& Int32.toUInt32 31)).toInt32) &&& 255))), (0, .int k), (1, .int cd), (2, .int cg)]) S dc_Mac_seal_28 1 rfl (by decide) (by decide) rfl ?_
  refine gw_goto (tgt := 10) S dc_Mac_seal_31 (by decide) ?_
  refine gw_iload S dc_Mac_seal_10 0 rfl ?_
  refine gw_if_lt (tgt := 34) S dc_Mac_seal_12 (by decide) (fun c_4 => by exact absurd c_4 (by decide)) (fun c_4 => ?_)
  refine gw_iload_n S dc_Mac_seal_15 rfl 1 rfl ?_
  refine gw_iload_n S dc_Mac_seal_16 rfl 4 rfl ?_
  refine gw_iload S dc_Mac_seal_17 0 rfl ?_
  refine gw_iushr S dc_Mac_seal_19 rfl ?_
  refine gw_sipush (v := 255) S dc_Mac_seal_20 (by decide) ?_
  refine gw_iand S dc_Mac_seal_23 ?_
  refine gw_callSR (As := [.int (f_Mac_grow (f_Mac_grow k cd) (((cg.toUInt32 >>> (Int32.toUInt32 24 &&& Int32.toUInt32 31)).toInt32) &&& 255)), .int (((cg.toUInt32 >>> (Int32.toUInt32 16 &&& Int32.toUInt32 31)).toInt32) &&& 255)]) (st := []) S hK (c_Mac_grow l D cA (f_Mac_grow (f_Mac_grow k cd) (((cg.toUInt32 >>> (Int32.toUInt32 24 &&& Int32.toUInt32 31)).toInt32) &&& 255)) (((cg.toUInt32 >>> (Int32.toUInt32 16 &&& Int32.toUInt32 31)).toInt32) &&& 255) ) (cw_Mac_12 S.2.2.2.2 rfl rfl ⟨Nat.le_of_ble_eq_true rfl, Nat.le_of_ble_eq_true rfl⟩) [] rfl (by decide) rfl rfl (Nat.le_of_ble_eq_true rfl) dc_Mac_seal_24 ⟨Nat.le_of_ble_eq_true rfl, Nat.le_of_ble_eq_true rfl⟩ ?_
  rintro _ rfl
  refine gw_eq (ws' := []) (lv' := [(4, .int 16), (3, .int (f_Mac_grow (f_Mac_grow k cd) (((cg.toUInt32 >>> (Int32.toUInt32 24 &&& Int32.toUInt32 31)).toInt32) &&& 255))), (0, .int k), (1, .int cd), (2, .int cg)]) (st' := [.int (f_Mac_grow (f_Mac_grow (f_Mac_grow k cd) (((cg.toUInt32 >>> (Int32.toUInt32 24 &&& Int32.toUInt32 31)).toInt32) &&& 255)) (((cg.toUInt32 >>> (Int32.toUInt32 16 &&& Int32.toUInt32 31)).toInt32) &&& 255))]) (pc' := 27) rfl rfl rfl rfl ?_
  refine gw_istore_n (lv' := [(3, .int (f_Mac_grow (f_Mac_grow (f_Mac_grow k cd) (((cg.toUInt32 >>> (Int32.toUInt32 24 &&& Int32.toUInt32 31)).toInt32) &&& 255)) (((cg.toUInt32 >>> (Int32.toUInt32 16 &&& Int32.toUInt32 31)).toInt32) &&& 255))), (4, .int 16), (0, .int k), (1, .int cd), (2, .int cg)]) S dc_Mac_seal_27 rfl (by decide) rfl ?_
  refine gw_iinc (v := 8) (lv' := [(4, .int 8), (3, .int (f_Mac_grow (f_Mac_grow (f_Mac_grow k cd) (((cg.toUInt32 >>> (Int32.toUInt32 24 &&& Int32.toUInt32 31)).toInt32) &&& 255)) (((cg.toUInt32 >>> (Int32.toUInt32 16 &&& Int32.toUInt32 31)).toInt32) &&& 255))), (0, .int k), (1, .int cd), (2, .int cg)]) S dc_Mac_seal_28 1 rfl (by decide) (by decide) rfl ?_
  refine gw_goto (tgt := 10) S dc_Mac_seal_31 (by decide) ?_
  refine gw_iload S dc_Mac_seal_10 0 rfl ?_
  refine gw_if_lt (tgt := 34) S dc_Mac_seal_12 (by decide) (fun c_6 => by exact absurd c_6 (by decide)) (fun c_6 => ?_)
  refine gw_iload_n S dc_Mac_seal_15 rfl 1 rfl ?_
  refine gw_iload_n S dc_Mac_seal_16 rfl 4 rfl ?_
  refine gw_iload S dc_Mac_seal_17 0 rfl ?_
  refine gw_iushr S dc_Mac_seal_19 rfl ?_
  refine gw_sipush (v := 255) S dc_Mac_seal_20 (by decide) ?_
  refine gw_iand S dc_Mac_seal_23 ?_
  refine gw_callSR (As := [.int (f_Mac_grow (f_Mac_grow (f_Mac_grow k cd) (((cg.toUInt32 >>> (Int32.toUInt32 24 &&& Int32.toUInt32 31)).toInt32) &&& 255)) (((cg.toUInt32 >>> (Int32.toUInt32 16 &&& Int32.toUInt32 31)).toInt32) &&& 255)), .int (((cg.toUInt32 >>> (Int32.toUInt32 8 &&& Int32.toUInt32 31)).toInt32) &&& 255)]) (st := []) S hK (c_Mac_grow l D cA (f_Mac_grow (f_Mac_grow (f_Mac_grow k cd) (((cg.toUInt32 >>> (Int32.toUInt32 24 &&& Int32.toUInt32 31)).toInt32) &&& 255)) (((cg.toUInt32 >>> (Int32.toUInt32 16 &&& Int32.toUInt32 31)).toInt32) &&& 255)) (((cg.toUInt32 >>> (Int32.toUInt32 8 &&& Int32.toUInt32 31)).toInt32) &&& 255) ) (cw_Mac_12 S.2.2.2.2 rfl rfl ⟨Nat.le_of_ble_eq_true rfl, Nat.le_of_ble_eq_true rfl⟩) [] rfl (by decide) rfl rfl (Nat.le_of_ble_eq_true rfl) dc_Mac_seal_24 ⟨Nat.le_of_ble_eq_true rfl, Nat.le_of_ble_eq_true rfl⟩ ?_
  rintro _ rfl
  refine gw_eq (ws' := []) (lv' := [(4, .int 8), (3, .int (f_Mac_grow (f_Mac_grow (f_Mac_grow k cd) (((cg.toUInt32 >>> (Int32.toUInt32 24 &&& Int32.toUInt32 31)).toInt32) &&& 255)) (((cg.toUInt32 >>> (Int32.toUInt32 16 &&& Int32.toUInt32 31)).toInt32) &&& 255))), (0, .int k), (1, .int cd), (2, .int cg)]) (st' := [.int (f_Mac_grow (f_Mac_grow (f_Mac_grow (f_Mac_grow k cd) (((cg.toUInt32 >>> (Int32.toUInt32 24 &&& Int32.toUInt32 31)).toInt32) &&& 255)) (((cg.toUInt32 >>> (Int32.toUInt32 16 &&& Int32.toUInt32 31)).toInt32) &&& 255)) (((cg.toUInt32 >>> (Int32.toUInt32 8 &&& Int32.toUInt32 31)).toInt32) &&& 255))]) (pc' := 27) rfl rfl rfl rfl ?_
  refine gw_istore_n (lv' := [(3, .int (f_Mac_grow (f_Mac_grow (f_Mac_grow (f_Mac_grow k cd) (((cg.toUInt32 >>> (Int32.toUInt32 24 &&& Int32.toUInt32 31)).toInt32) &&& 255)) (((cg.toUInt32 >>> (Int32.toUInt32 16 &&& Int32.toUInt32 31)).toInt32) &&& 255)) (((cg.toUInt32 >>> (Int32.toUInt32 8 &&& Int32.toUInt32 31)).toInt32) &&& 255))), (4, .int 8), (0, .int k), (1, .int cd), (2, .int cg)]) S dc_Mac_seal_27 rfl (by decide) rfl ?_
  refine gw_iinc (v := 0) (lv' := [(4, .int 0), (3, .int (f_Mac_grow (f_Mac_grow (f_Mac_grow (f_Mac_grow k cd) (((cg.toUInt32 >>> (Int32.toUInt32 24 &&& Int32.toUInt32 31)).toInt32) &&& 255)) (((cg.toUInt32 >>> (Int32.toUInt32 16 &&& Int32.toUInt32 31)).toInt32) &&& 255)) (((cg.toUInt32 >>> (Int32.toUInt32 8 &&& Int32.toUInt32 31)).toInt32) &&& 255))), (0, .int k), (1, .int cd), (2, .int cg)]) S dc_Mac_seal_28 1 rfl (by decide) (by decide) rfl ?_
  refine gw_goto (tgt := 10) S dc_Mac_seal_31 (by decide) ?_
  refine gw_iload S dc_Mac_seal_10 0 rfl ?_
  refine gw_if_lt (tgt := 34) S dc_Mac_seal_12 (by decide) (fun c_8 => by exact absurd c_8 (by decide)) (fun c_8 => ?_)
  refine gw_iload_n S dc_Mac_seal_15 rfl 1 rfl ?_
  refine gw_iload_n S dc_Mac_seal_16 rfl 4 rfl ?_
  refine gw_iload S dc_Mac_seal_17 0 rfl ?_
  refine gw_iushr S dc_Mac_seal_19 rfl ?_
  refine gw_sipush (v := 255) S dc_Mac_seal_20 (by decide) ?_
  refine gw_iand S dc_Mac_seal_23 ?_
  refine gw_callSR (As := [.int (f_Mac_grow (f_Mac_grow (f_Mac_grow (f_Mac_grow k cd) (((cg.toUInt32 >>> (Int32.toUInt32 24 &&& Int32.toUInt32 31)).toInt32) &&& 255)) (((cg.toUInt32 >>> (Int32.toUInt32 16 &&& Int32.toUInt32 31)).toInt32) &&& 255)) (((cg.toUInt32 >>> (Int32.toUInt32 8 &&& Int32.toUInt32 31)).toInt32) &&& 255)), .int (((cg.toUInt32 >>> (Int32.toUInt32 0 &&& Int32.toUInt32 31)).toInt32) &&& 255)]) (st := []) S hK (c_Mac_grow l D cA (f_Mac_grow (f_Mac_grow (f_Mac_grow (f_Mac_grow k cd) (((cg.toUInt32 >>> (Int32.toUInt32 24 &&& Int32.toUInt32 31)).toInt32) &&& 255)) (((cg.toUInt32 >>> (Int32.toUInt32 16 &&& Int32.toUInt32 31)).toInt32) &&& 255)) (((cg.toUInt32 >>> (Int32.toUInt32 8 &&& Int32.toUInt32 31)).toInt32) &&& 255)) (((cg.toUInt32 >>> (Int32.toUInt32 0 &&& Int32.toUInt32 31)).toInt32) &&& 255) ) (cw_Mac_12 S.2.2.2.2 rfl rfl ⟨Nat.le_of_ble_eq_true rfl, Nat.le_of_ble_eq_true rfl⟩) [] rfl (by decide) rfl rfl (Nat.le_of_ble_eq_true rfl) dc_Mac_seal_24 ⟨Nat.le_of_ble_eq_true rfl, Nat.le_of_ble_eq_true rfl⟩ ?_
  rintro _ rfl
  refine gw_eq (ws' := []) (lv' := [(4, .int 0), (3, .int (f_Mac_grow (f_Mac_grow (f_Mac_grow (f_Mac_grow k cd) (((cg.toUInt32 >>> (Int32.toUInt32 24 &&& Int32.toUInt32 31)).toInt32) &&& 255)) (((cg.toUInt32 >>> (Int32.toUInt32 16 &&& Int32.toUInt32 31)).toInt32) &&& 255)) (((cg.toUInt32 >>> (Int32.toUInt32 8 &&& Int32.toUInt32 31)).toInt32) &&& 255))), (0, .int k), (1, .int cd), (2, .int cg)]) (st' := [.int (f_Mac_grow (f_Mac_grow (f_Mac_grow (f_Mac_grow (f_Mac_grow k cd) (((cg.toUInt32 >>> (Int32.toUInt32 24 &&& Int32.toUInt32 31)).toInt32) &&& 255)) (((cg.toUInt32 >>> (Int32.toUInt32 16 &&& Int32.toUInt32 31)).toInt32) &&& 255)) (((cg.toUInt32 >>> (Int32.toUInt32 8 &&& Int32.toUInt32 31)).toInt32) &&& 255)) (((cg.toUInt32 >>> (Int32.toUInt32 0 &&& Int32.toUInt32 31)).toInt32) &&& 255))]) (pc' := 27) rfl rfl rfl rfl ?_
  refine gw_istore_n (lv' := [(3, .int (f_Mac_grow (f_Mac_grow (f_Mac_grow (f_Mac_grow (f_Mac_grow k cd) (((cg.toUInt32 >>> (Int32.toUInt32 24 &&& Int32.toUInt32 31)).toInt32) &&& 255)) (((cg.toUInt32 >>> (Int32.toUInt32 16 &&& Int32.toUInt32 31)).toInt32) &&& 255)) (((cg.toUInt32 >>> (Int32.toUInt32 8 &&& Int32.toUInt32 31)).toInt32) &&& 255)) (((cg.toUInt32 >>> (Int32.toUInt32 0 &&& Int32.toUInt32 31)).toInt32) &&& 255))), (4, .int 0), (0, .int k), (1, .int cd), (2, .int cg)]) S dc_Mac_seal_27 rfl (by decide) rfl ?_
  refine gw_iinc (v := -8) (lv' := [(4, .int (-8)), (3, .int (f_Mac_grow (f_Mac_grow (f_Mac_grow (f_Mac_grow (f_Mac_grow k cd) (((cg.toUInt32 >>> (Int32.toUInt32 24 &&& Int32.toUInt32 31)).toInt32) &&& 255)) (((cg.toUInt32 >>> (Int32.toUInt32 16 &&& Int32.toUInt32 31)).toInt32) &&& 255)) (((cg.toUInt32 >>> (Int32.toUInt32 8 &&& Int32.toUInt32 31)).toInt32) &&& 255)) (((cg.toUInt32 >>> (Int32.toUInt32 0 &&& Int32.toUInt32 31)).toInt32) &&& 255))), (0, .int k), (1, .int cd), (2, .int cg)]) S dc_Mac_seal_28 1 rfl (by decide) (by decide) rfl ?_
  refine gw_goto (tgt := 10) S dc_Mac_seal_31 (by decide) ?_
  refine gw_iload S dc_Mac_seal_10 0 rfl ?_
  refine gw_if_lt (tgt := 34) S dc_Mac_seal_12 (by decide) (fun c_10 => ?_) (fun c_10 => by exact absurd c_10 (by decide))
  refine gw_iload_n S dc_Mac_seal_34 rfl 1 rfl ?_
  exact gw_iretR S g_r g_k  (by simp only [f_Mac_seal]) dc_Mac_seal_35
set_option maxRecDepth 100000 in
set_option maxHeartbeats 4000000 in
theorem c_Term_floor (l : Launch) (D : va_G) (cA : Nat → ClassId) (h : Nat) (hs : Nat) (g : Nat → Int32)  : ct_R l D cA yn_Term_floor cd_Term_floor 1 [.ref h] [(h, .inr (1, [.ref hs])), (hs, .inl (cA 0, 7, .inl g))] (fun v_ => v_ = some (.int (g 0))) := by
  refine gw_metR (by decide) rfl (Nat.le_of_ble_eq_true rfl) ?_
  intro p_ e_ s_ m_ args_ below_ meth_ c_ S g_r g_k hK
  refine gw_eq (ws' := [(h, .inr (1, [.ref hs])), (hs, .inl (cA 0, 7, .inl g))]) (lv' := [(0, .ref h)]) (st' := []) (pc' := 0) rfl rfl rfl rfl ?_
  refine gw_aload_n S dc_Term_floor_0 rfl 0 rfl ?_
  refine gw_get S hK.1 ic_Term rfl 0 (by decide) (gw_lk S mw_51) 0 rfl rfl dc_Term_floor_1 ?_
  refine gw_iconst (v := 0) S dc_Term_floor_4 (by decide) ?_
  refine gw_iald S hK.1 1 0 rfl rfl (by unfold vp_in; decide) dc_Term_floor_5 ?_
  refine gw_eq (ws' := [(h, .inr (1, [.ref hs])), (hs, .inl (cA 0, 7, .inl g))]) (lv' := [(0, .ref h)]) (st' := [.int (g 0)]) (pc' := 6) rfl rfl rfl rfl ?_
  exact gw_iretR S g_r g_k  rfl dc_Term_floor_6
set_option maxRecDepth 100000 in
set_option maxHeartbeats 4000000 in
theorem c_Term_day (l : Launch) (D : va_G) (cA : Nat → ClassId) (h : Nat) (hs : Nat) (g : Nat → Int32)  : ct_R l D cA yn_Term_day cd_Term_day 1 [.ref h] [(h, .inr (1, [.ref hs])), (hs, .inl (cA 0, 7, .inl g))] (fun v_ => v_ = some (.int (g 1))) := by
  refine gw_metR (by decide) rfl (Nat.le_of_ble_eq_true rfl) ?_
  intro p_ e_ s_ m_ args_ below_ meth_ c_ S g_r g_k hK
  refine gw_eq (ws' := [(h, .inr (1, [.ref hs])), (hs, .inl (cA 0, 7, .inl g))]) (lv' := [(0, .ref h)]) (st' := []) (pc' := 0) rfl rfl rfl rfl ?_
  refine gw_aload_n S dc_Term_day_0 rfl 0 rfl ?_
  refine gw_get S hK.1 ic_Term rfl 0 (by decide) (gw_lk S mw_51) 0 rfl rfl dc_Term_day_1 ?_
  refine gw_iconst (v := 1) S dc_Term_day_4 (by decide) ?_
  refine gw_iald S hK.1 1 0 rfl rfl (by unfold vp_in; decide) dc_Term_day_5 ?_
  refine gw_eq (ws' := [(h, .inr (1, [.ref hs])), (hs, .inl (cA 0, 7, .inl g))]) (lv' := [(0, .ref h)]) (st' := [.int (g 1)]) (pc' := 6) rfl rfl rfl rfl ?_
  exact gw_iretR S g_r g_k  rfl dc_Term_day_6
def f_Term_isConnected (g : Nat → Int32) : Int32 := if (g 2) = 0 then 0 else (1)
theorem b_Term_isConnected (g : Nat → Int32) : f_Term_isConnected g = 0 ∨ f_Term_isConnected g = 1 := by
  unfold f_Term_isConnected
  exact (bo_ite (Or.inl rfl) (Or.inr rfl))
set_option maxRecDepth 100000 in
set_option maxHeartbeats 4000000 in
theorem c_Term_isConnected (l : Launch) (D : va_G) (cA : Nat → ClassId) (h : Nat) (hs : Nat) (g : Nat → Int32)  : ct_R l D cA yn_Term_isConnected cd_Term_isConnected 1 [.ref h] [(h, .inr (1, [.ref hs])), (hs, .inl (cA 0, 7, .inl g))] (fun v_ => v_ = some (.int (f_Term_isConnected g))) := by
  refine gw_metR (by decide) rfl (Nat.le_of_ble_eq_true rfl) ?_
  intro p_ e_ s_ m_ args_ below_ meth_ c_ S g_r g_k hK
  refine gw_eq (ws' := [(h, .inr (1, [.ref hs])), (hs, .inl (cA 0, 7, .inl g))]) (lv' := [(0, .ref h)]) (st' := []) (pc' := 0) rfl rfl rfl rfl ?_
  refine gw_aload_n S dc_Term_isConnected_0 rfl 0 rfl ?_
  refine gw_get S hK.1 ic_Term rfl 0 (by decide) (gw_lk S mw_51) 0 rfl rfl dc_Term_isConnected_1 ?_
  refine gw_iconst (v := 2) S dc_Term_isConnected_4 (by decide) ?_
  refine gw_iald S hK.1 1 0 rfl rfl (by unfold vp_in; decide) dc_Term_isConnected_5 ?_
  refine gw_eq (ws' := [(h, .inr (1, [.ref hs])), (hs, .inl (cA 0, 7, .inl g))]) (lv' := [(0, .ref h)]) (st' := [.int (g 2)]) (pc' := 6) rfl rfl rfl rfl ?_
  refine gw_if_eq (tgt := 13) S dc_Term_isConnected_6 (by decide) (fun c_1 => ?_) (fun c_1 => ?_)
  · -- taken
    refine gw_iconst (v := 0) S dc_Term_isConnected_13 (by decide) ?_
    exact gw_zretR S g_r g_k rfl (by simp only [f_Term_isConnected, if_pos c_1]) dc_Term_isConnected_14
  · -- not
    refine gw_iconst (v := 1) S dc_Term_isConnected_9 (by decide) ?_
    refine gw_goto (tgt := 14) S dc_Term_isConnected_10 (by decide) ?_
    exact gw_zretR S g_r g_k rfl (by simp only [f_Term_isConnected, if_neg c_1]) dc_Term_isConnected_14
def f_Term_hasPad (g : Nat → Int32) : Int32 := if (g 3) = 0 then 0 else (1)
theorem b_Term_hasPad (g : Nat → Int32) : f_Term_hasPad g = 0 ∨ f_Term_hasPad g = 1 := by
  unfold f_Term_hasPad
  exact (bo_ite (Or.inl rfl) (Or.inr rfl))
set_option maxRecDepth 100000 in
set_option maxHeartbeats 4000000 in
theorem c_Term_hasPad (l : Launch) (D : va_G) (cA : Nat → ClassId) (h : Nat) (hs : Nat) (g : Nat → Int32)  : ct_R l D cA yn_Term_hasPad cd_Term_hasPad 1 [.ref h] [(h, .inr (1, [.ref hs])), (hs, .inl (cA 0, 7, .inl g))] (fun v_ => v_ = some (.int (f_Term_hasPad g))) := by
  refine gw_metR (by decide) rfl (Nat.le_of_ble_eq_true rfl) ?_
  intro p_ e_ s_ m_ args_ below_ meth_ c_ S g_r g_k hK
  refine gw_eq (ws' := [(h, .inr (1, [.ref hs])), (hs, .inl (cA 0, 7, .inl g))]) (lv' := [(0, .ref h)]) (st' := []) (pc' := 0) rfl rfl rfl rfl ?_
  refine gw_aload_n S dc_Term_hasPad_0 rfl 0 rfl ?_
  refine gw_get S hK.1 ic_Term rfl 0 (by decide) (gw_lk S mw_51) 0 rfl rfl dc_Term_hasPad_1 ?_
  refine gw_iconst (v := 3) S dc_Term_hasPad_4 (by decide) ?_
  refine gw_iald S hK.1 1 0 rfl rfl (by unfold vp_in; decide) dc_Term_hasPad_5 ?_
  refine gw_eq (ws' := [(h, .inr (1, [.ref hs])), (hs, .inl (cA 0, 7, .inl g))]) (lv' := [(0, .ref h)]) (st' := [.int (g 3)]) (pc' := 6) rfl rfl rfl rfl ?_
  refine gw_if_eq (tgt := 13) S dc_Term_hasPad_6 (by decide) (fun c_1 => ?_) (fun c_1 => ?_)
  · -- taken
    refine gw_iconst (v := 0) S dc_Term_hasPad_13 (by decide) ?_
    exact gw_zretR S g_r g_k rfl (by simp only [f_Term_hasPad, if_pos c_1]) dc_Term_hasPad_14
  · -- not
    refine gw_iconst (v := 1) S dc_Term_hasPad_9 (by decide) ?_
    refine gw_goto (tgt := 14) S dc_Term_hasPad_10 (by decide) ?_
    exact gw_zretR S g_r g_k rfl (by simp only [f_Term_hasPad, if_neg c_1]) dc_Term_hasPad_14
set_option maxRecDepth 100000 in
set_option maxHeartbeats 4000000 in
theorem c_Term_maskDefault (l : Launch) (D : va_G) (cA : Nat → ClassId) (h : Nat) (hs : Nat) (g : Nat → Int32)  : ct_R l D cA yn_Term_maskDefault cd_Term_maskDefault 1 [.ref h] [(h, .inr (1, [.ref hs])), (hs, .inl (cA 0, 7, .inl g))] (fun v_ => v_ = some (.int (g 4))) := by
  refine gw_metR (by decide) rfl (Nat.le_of_ble_eq_true rfl) ?_
  intro p_ e_ s_ m_ args_ below_ meth_ c_ S g_r g_k hK
  refine gw_eq (ws' := [(h, .inr (1, [.ref hs])), (hs, .inl (cA 0, 7, .inl g))]) (lv' := [(0, .ref h)]) (st' := []) (pc' := 0) rfl rfl rfl rfl ?_
  refine gw_aload_n S dc_Term_maskDefault_0 rfl 0 rfl ?_
  refine gw_get S hK.1 ic_Term rfl 0 (by decide) (gw_lk S mw_51) 0 rfl rfl dc_Term_maskDefault_1 ?_
  refine gw_iconst (v := 4) S dc_Term_maskDefault_4 (by decide) ?_
  refine gw_iald S hK.1 1 0 rfl rfl (by unfold vp_in; decide) dc_Term_maskDefault_5 ?_
  refine gw_eq (ws' := [(h, .inr (1, [.ref hs])), (hs, .inl (cA 0, 7, .inl g))]) (lv' := [(0, .ref h)]) (st' := [.int (g 4)]) (pc' := 6) rfl rfl rfl rfl ?_
  exact gw_iretR S g_r g_k  rfl dc_Term_maskDefault_6
set_option maxRecDepth 100000 in
set_option maxHeartbeats 4000000 in
theorem c_Term_maskDenial (l : Launch) (D : va_G) (cA : Nat → ClassId) (h : Nat) (hs : Nat) (g : Nat → Int32)  : ct_R l D cA yn_Term_maskDenial cd_Term_maskDenial 1 [.ref h] [(h, .inr (1, [.ref hs])), (hs, .inl (cA 0, 7, .inl g))] (fun v_ => v_ = some (.int (g 5))) := by
  refine gw_metR (by decide) rfl (Nat.le_of_ble_eq_true rfl) ?_
  intro p_ e_ s_ m_ args_ below_ meth_ c_ S g_r g_k hK
  refine gw_eq (ws' := [(h, .inr (1, [.ref hs])), (hs, .inl (cA 0, 7, .inl g))]) (lv' := [(0, .ref h)]) (st' := []) (pc' := 0) rfl rfl rfl rfl ?_
  refine gw_aload_n S dc_Term_maskDenial_0 rfl 0 rfl ?_
  refine gw_get S hK.1 ic_Term rfl 0 (by decide) (gw_lk S mw_51) 0 rfl rfl dc_Term_maskDenial_1 ?_
  refine gw_iconst (v := 5) S dc_Term_maskDenial_4 (by decide) ?_
  refine gw_iald S hK.1 1 0 rfl rfl (by unfold vp_in; decide) dc_Term_maskDenial_5 ?_
  refine gw_eq (ws' := [(h, .inr (1, [.ref hs])), (hs, .inl (cA 0, 7, .inl g))]) (lv' := [(0, .ref h)]) (st' := [.int (g 5)]) (pc' := 6) rfl rfl rfl rfl ?_
  exact gw_iretR S g_r g_k  rfl dc_Term_maskDenial_6
set_option maxRecDepth 100000 in
set_option maxHeartbeats 4000000 in
theorem c_Term_maskOnline (l : Launch) (D : va_G) (cA : Nat → ClassId) (h : Nat) (hs : Nat) (g : Nat → Int32)  : ct_R l D cA yn_Term_maskOnline cd_Term_maskOnline 1 [.ref h] [(h, .inr (1, [.ref hs])), (hs, .inl (cA 0, 7, .inl g))] (fun v_ => v_ = some (.int (g 6))) := by
  refine gw_metR (by decide) rfl (Nat.le_of_ble_eq_true rfl) ?_
  intro p_ e_ s_ m_ args_ below_ meth_ c_ S g_r g_k hK
  refine gw_eq (ws' := [(h, .inr (1, [.ref hs])), (hs, .inl (cA 0, 7, .inl g))]) (lv' := [(0, .ref h)]) (st' := []) (pc' := 0) rfl rfl rfl rfl ?_
  refine gw_aload_n S dc_Term_maskOnline_0 rfl 0 rfl ?_
  refine gw_get S hK.1 ic_Term rfl 0 (by decide) (gw_lk S mw_51) 0 rfl rfl dc_Term_maskOnline_1 ?_
  refine gw_bipush (v := 6) S dc_Term_maskOnline_4 (by decide) ?_
  refine gw_iald S hK.1 1 0 rfl rfl (by unfold vp_in; decide) dc_Term_maskOnline_6 ?_
  refine gw_eq (ws' := [(h, .inr (1, [.ref hs])), (hs, .inl (cA 0, 7, .inl g))]) (lv' := [(0, .ref h)]) (st' := [.int (g 6)]) (pc' := 7) rfl rfl rfl rfl ?_
  exact gw_iretR S g_r g_k  rfl dc_Term_maskOnline_7
