/-- the demands of a list, as the class goes through them: is it a list -/
def il_e (z : Int32) (ln : Nat → Int32) (o a q : Int32) : Int32 := if a = f_Tree_lengthOf z ln o then (if 40 < q then 0 else 1) else 0
def il_f (z n : Int32) (f ss ln : Nat → Int32) (o : Int32) : Nat → Int32 → Int32 → Int32
  | 0, a, q => il_e z ln o a q
  | k + 1, a, q => if f_Tree_lengthOf z ln o ≤ a then il_e z ln o a q else if f_Tree_tagOf z n f ss ln o a = -1 then 0 else if f_Tree_byteOf z n f ss ln o (a + f_Tag_bytesOf (f_Tree_tagOf z n f ss ln o a)) = -1 then 0 else il_f z n f ss ln o k (a + f_Tag_bytesOf (f_Tree_tagOf z n f ss ln o a) + 1) (q + f_Tree_byteOf z n f ss ln o (a + f_Tag_bytesOf (f_Tree_tagOf z n f ss ln o a)))
theorem b_il_e (z : Int32) (ln : Nat → Int32) (o a q : Int32) : il_e z ln o a q = 0 ∨ il_e z ln o a q = 1 := by
  unfold il_e
  (repeat' split) <;> first | exact Or.inl rfl | exact Or.inr rfl
theorem b_il (z n : Int32) (f ss ln : Nat → Int32) (o : Int32) : ∀ (k : Nat) (a q : Int32), il_f z n f ss ln o k a q = 0 ∨ il_f z n f ss ln o k a q = 1
  | 0, a, q => b_il_e z ln o a q
  | k + 1, a, q => by
    unfold il_f
    (repeat' split) <;> first | exact Or.inl rfl | exact b_il_e .. | exact b_il z n f ss ln o k _ _
def f_isl (z n : Int32) (f ss ln : Nat → Int32) (o : Int32) : Int32 := il_f z n f ss ln o 8 0 0
theorem b_isl (z n : Int32) (f ss ln : Nat → Int32) (o : Int32) : f_isl z n f ss ln o = 0 ∨ f_isl z n f ss ln o = 1 := b_il ..
theorem l8_lt {c : Nat} (h : c ≤ 8) (q : ¬ (8 : Int32) ≤ nI c) : ∃ k, 8 - c = k + 1 ∧ 8 - (c + 1) = k ∧ c + 1 ≤ 8 := by
  have := lp_lt (k := 8) (n := 8) rfl (by omega) q
  exact ⟨8 - (c + 1), by omega, rfl, by omega⟩
theorem l8_ge {c : Nat} (h : c ≤ 8) (q : (8 : Int32) ≤ nI c) : 8 - c = 0 := by
  have := lp_ge (k := 8) (n := 8) rfl (by decide) q
  omega
set_option maxRecDepth 100000 in
set_option maxHeartbeats 4000000 in
theorem c_Card_isList (l : Launch) (D : va_G) (cA : Nat → ClassId) (hc : Nat) (ho : Nat) (ky : Int32) (pn : Int32) (tr : Int32) (ct : Int32) (rn : Int32) (sn : Int32) (ac : Int32) (ed : Int32) (md : Int32) (mn : Int32) (mo : Int32) (lo : Int32) (up : Int32) (hr : Nat) (ht : Nat) (hx : Nat) (hl : Nat) (hi : Nat) (z : Int32) (hb : Nat) (n : Int32) (f : Nat → Int32) (tg : Nat → Int32) (ss : Nat → Int32) (ln : Nat → Int32) (o : Int32) (hz : rw_ok z 30) (hN : rw_ok n 60) : ct_R l D cA yn_Card_isList cd_Card_isList 4 [.ref hc, .int o] [(hc, .inr (5, [.ref ho, .int ky, .int pn, .int tr, .int ct, .int rn, .int sn, .int ac, .int ed, .int md, .int mn, .int mo, .int lo, .int up])), (ho, .inr (4, [.ref hr, .ref ht, .ref hx, .ref hl, .ref hi, .int z])), (hr, .inr (0, [.ref hb, .int n])), (hb, .inl (cA 0, 60, .inl f)), (ht, .inl (cA 0, 30, .inl tg)), (hx, .inl (cA 0, 30, .inl ss)), (hl, .inl (cA 0, 30, .inl ln))] (fun v_ => v_ = some (.int (f_isl z n f ss ln o))) := by
  refine gw_metR (by decide) rfl (Nat.le_of_ble_eq_true rfl) ?_
  intro p_ e_ s_ m_ args_ below_ meth_ c_ S g_r g_k hK
  refine gw_eq (ws' := [(hc, .inr (5, [.ref ho, .int ky, .int pn, .int tr, .int ct, .int rn, .int sn, .int ac, .int ed, .int md, .int mn, .int mo, .int lo, .int up])), (ho, .inr (4, [.ref hr, .ref ht, .ref hx, .ref hl, .ref hi, .int z])), (hr, .inr (0, [.ref hb, .int n])), (hb, .inl (cA 0, 60, .inl f)), (ht, .inl (cA 0, 30, .inl tg)), (hx, .inl (cA 0, 30, .inl ss)), (hl, .inl (cA 0, 30, .inl ln))]) (lv' := [(0, .ref hc), (1, .int o)]) (st' := []) (pc' := 0) rfl rfl rfl rfl ?_
  refine gw_iconst (v := 0) S dc_Card_isList_0 (by decide) ?_
  refine gw_istore_n (lv' := [(2, .int 0), (0, .ref hc), (1, .int o)]) S dc_Card_isList_1 rfl (by decide) rfl ?_
  refine gw_iconst (v := 0) S dc_Card_isList_2 (by decide) ?_
  refine gw_istore_n (lv' := [(3, .int 0), (2, .int 0), (0, .ref hc), (1, .int o)]) S dc_Card_isList_3 rfl (by decide) rfl ?_
  refine gw_iconst (v := 0) S dc_Card_isList_4 (by decide) ?_
  refine gw_istore (lv' := [(4, .int 0), (3, .int 0), (2, .int 0), (0, .ref hc), (1, .int o)]) S dc_Card_isList_5 (by decide) rfl ?_
  refine gw_drop [3, 4, 2, 1, 0] (lv' := [(0, .ref hc), (1, .int o), (2, .int 0), (3, .int 0), (4, .int 0)]) rfl ?_
  refine gw_loop (σ := Nat × Int32 × Int32) (fun (x_ : Nat × Int32 × Int32) => match x_ with | (c9, a, q) => (c9 ≤ 8) ∧ (il_f z n f ss ln o 8 0 0 = il_f z n f ss ln o (8 - c9) a q)) (fun (x_ : Nat × Int32 × Int32) => match x_ with | (c9, a, q) => 8 - c9) (fun (x_ : Nat × Int32 × Int32) => match x_ with | (c9, a, q) => [(hc, .inr (5, [.ref ho, .int ky, .int pn, .int tr, .int ct, .int rn, .int sn, .int ac, .int ed, .int md, .int mn, .int mo, .int lo, .int up])), (ho, .inr (4, [.ref hr, .ref ht, .ref hx, .ref hl, .ref hi, .int z])), (hr, .inr (0, [.ref hb, .int n])), (hb, .inl (cA 0, 60, .inl f)), (ht, .inl (cA 0, 30, .inl tg)), (hx, .inl (cA 0, 30, .inl ss)), (hl, .inl (cA 0, 30, .inl ln))]) (fun (x_ : Nat × Int32 × Int32) => match x_ with | (c9, a, q) => [(0, .ref hc), (1, .int o), (2, .int a), (3, .int q), (4, .int (nI c9))]) ?_ (0, 0, 0) ?_ rfl rfl
  rotate_left
  · exact ⟨Nat.zero_le _, rfl⟩
  rintro ⟨c9, a, q⟩ ⟨hc9, hm9⟩ ih_1
  refine gw_eq (ws' := [(hc, .inr (5, [.ref ho, .int ky, .int pn, .int tr, .int ct, .int rn, .int sn, .int ac, .int ed, .int md, .int mn, .int mo, .int lo, .int up])), (ho, .inr (4, [.ref hr, .ref ht, .ref hx, .ref hl, .ref hi, .int z])), (hr, .inr (0, [.ref hb, .int n])), (hb, .inl (cA 0, 60, .inl f)), (ht, .inl (cA 0, 30, .inl tg)), (hx, .inl (cA 0, 30, .inl ss)), (hl, .inl (cA 0, 30, .inl ln))]) (lv' := [(0, .ref hc), (1, .int o), (2, .int a), (3, .int q), (4, .int (nI c9))]) (st' := []) (pc' := 7) rfl rfl rfl rfl ?_
  refine gw_iload S dc_Card_isList_7 4 rfl ?_
  refine gw_bipush (v := 8) S dc_Card_isList_9 (by decide) ?_
  refine gw_icmp_ge (tgt := 88) S dc_Card_isList_11 (by decide) (fun c_2 => ?_) (fun c_2 => ?_)
  · -- taken
    refine gw_iload_n S dc_Card_isList_88 rfl 2 rfl ?_
    refine gw_aload_n S dc_Card_isList_89 rfl 0 rfl ?_
    refine gw_get S hK.1 ic_Card rfl 0 (by decide) (gw_lk S mw_188) 0 rfl rfl dc_Card_isList_90 ?_
    refine gw_iload_n S dc_Card_isList_93 rfl 1 rfl ?_
    refine gw_callVR (As := [.int o]) (st := [.int a]) S hK (c_Tree_lengthOf l D cA ho hr ht hx hl hi z ln o (by assumption)) (cw_Card_85 S.2.2.2.2 rfl rfl ⟨Nat.le_of_ble_eq_true rfl, Nat.le_of_ble_eq_true rfl⟩) [1, 6] rfl (by decide) 0 rfl rfl rfl rfl rfl (Nat.le_of_ble_eq_true rfl) dc_Card_isList_94 ⟨Nat.le_of_ble_eq_true rfl, Nat.le_of_ble_eq_true rfl⟩ ?_
    rintro _ rfl
    refine gw_eq (ws' := [(hc, .inr (5, [.ref ho, .int ky, .int pn, .int tr, .int ct, .int rn, .int sn, .int ac, .int ed, .int md, .int mn, .int mo, .int lo, .int up])), (ho, .inr (4, [.ref hr, .ref ht, .ref hx, .ref hl, .ref hi, .int z])), (hr, .inr (0, [.ref hb, .int n])), (hb, .inl (cA 0, 60, .inl f)), (ht, .inl (cA 0, 30, .inl tg)), (hx, .inl (cA 0, 30, .inl ss)), (hl, .inl (cA 0, 30, .inl ln))]) (lv' := [(0, .ref hc), (1, .int o), (2, .int a), (3, .int q), (4, .int (nI c9))]) (st' := [.int (f_Tree_lengthOf z ln o), .int a]) (pc' := 97) rfl rfl rfl rfl ?_
    refine gw_icmp_ne (tgt := 110) S dc_Card_isList_97 (by decide) (fun c_4 => ?_) (fun c_4 => ?_)
    · -- taken
      refine gw_iconst (v := 0) S dc_Card_isList_110 (by decide) ?_
      exact gw_zretR S g_r g_k rfl (by show _ = some (Value.int (il_f z n f ss ln o 8 0 0)); rw [hm9, l8_ge hc9 c_2]; simp only [il_f, il_e, if_neg c_4]) dc_Card_isList_111
    · -- not
      refine gw_iload_n S dc_Card_isList_100 rfl 3 rfl ?_
      refine gw_bipush (v := 40) S dc_Card_isList_101 (by decide) ?_
      refine gw_icmp_gt (tgt := 110) S dc_Card_isList_103 (by decide) (fun c_5 => ?_) (fun c_5 => ?_)
      · -- taken
        refine gw_iconst (v := 0) S dc_Card_isList_110 (by decide) ?_
        exact gw_zretR S g_r g_k rfl (by show _ = some (Value.int (il_f z n f ss ln o 8 0 0)); rw [hm9, l8_ge hc9 c_2]; simp only [il_f, il_e, if_pos c_4, if_pos c_5]) dc_Card_isList_111
      · -- not
        refine gw_iconst (v := 1) S dc_Card_isList_106 (by decide) ?_
        refine gw_goto (tgt := 111) S dc_Card_isList_107 (by decide) ?_
        exact gw_zretR S g_r g_k rfl (by show _ = some (Value.int (il_f z n f ss ln o 8 0 0)); rw [hm9, l8_ge hc9 c_2]; simp only [il_f, il_e, if_pos c_4, if_neg c_5]) dc_Card_isList_111
  · -- not
    refine gw_iload_n S dc_Card_isList_14 rfl 2 rfl ?_
    refine gw_aload_n S dc_Card_isList_15 rfl 0 rfl ?_
    refine gw_get S hK.1 ic_Card rfl 0 (by decide) (gw_lk S mw_188) 0 rfl rfl dc_Card_isList_16 ?_
    refine gw_iload_n S dc_Card_isList_19 rfl 1 rfl ?_
    refine gw_callVR (As := [.int o]) (st := [.int a]) S hK (c_Tree_lengthOf l D cA ho hr ht hx hl hi z ln o (by assumption)) (cw_Card_85 S.2.2.2.2 rfl rfl ⟨Nat.le_of_ble_eq_true rfl, Nat.le_of_ble_eq_true rfl⟩) [1, 6] rfl (by decide) 0 rfl rfl rfl rfl rfl (Nat.le_of_ble_eq_true rfl) dc_Card_isList_20 ⟨Nat.le_of_ble_eq_true rfl, Nat.le_of_ble_eq_true rfl⟩ ?_
    rintro _ rfl
    refine gw_eq (ws' := [(hc, .inr (5, [.ref ho, .int ky, .int pn, .int tr, .int ct, .int rn, .int sn, .int ac, .int ed, .int md, .int mn, .int mo, .int lo, .int up])), (ho, .inr (4, [.ref hr, .ref ht, .ref hx, .ref hl, .ref hi, .int z])), (hr, .inr (0, [.ref hb, .int n])), (hb, .inl (cA 0, 60, .inl f)), (ht, .inl (cA 0, 30, .inl tg)), (hx, .inl (cA 0, 30, .inl ss)), (hl, .inl (cA 0, 30, .inl ln))]) (lv' := [(0, .ref hc), (1, .int o), (2, .int a), (3, .int q), (4, .int (nI c9))]) (st' := [.int (f_Tree_lengthOf z ln o), .int a]) (pc' := 23) rfl rfl rfl rfl ?_
    refine gw_icmp_ge (tgt := 88) S dc_Card_isList_23 (by decide) (fun c_7 => ?_) (fun c_7 => ?_)
    · -- taken
      refine gw_iload_n S dc_Card_isList_88 rfl 2 rfl ?_
      refine gw_aload_n S dc_Card_isList_89 rfl 0 rfl ?_
      refine gw_get S hK.1 ic_Card rfl 0 (by decide) (gw_lk S mw_188) 0 rfl rfl dc_Card_isList_90 ?_
      refine gw_iload_n S dc_Card_isList_93 rfl 1 rfl ?_
      refine gw_callVR (As := [.int o]) (st := [.int a]) S hK (c_Tree_lengthOf l D cA ho hr ht hx hl hi z ln o (by assumption)) (cw_Card_85 S.2.2.2.2 rfl rfl ⟨Nat.le_of_ble_eq_true rfl, Nat.le_of_ble_eq_true rfl⟩) [1, 6] rfl (by decide) 0 rfl rfl rfl rfl rfl (Nat.le_of_ble_eq_true rfl) dc_Card_isList_94 ⟨Nat.le_of_ble_eq_true rfl, Nat.le_of_ble_eq_true rfl⟩ ?_
      rintro _ rfl
      refine gw_eq (ws' := [(hc, .inr (5, [.ref ho, .int ky, .int pn, .int tr, .int ct, .int rn, .int sn, .int ac, .int ed, .int md, .int mn, .int mo, .int lo, .int up])), (ho, .inr (4, [.ref hr, .ref ht, .ref hx, .ref hl, .ref hi, .int z])), (hr, .inr (0, [.ref hb, .int n])), (hb, .inl (cA 0, 60, .inl f)), (ht, .inl (cA 0, 30, .inl tg)), (hx, .inl (cA 0, 30, .inl ss)), (hl, .inl (cA 0, 30, .inl ln))]) (lv' := [(0, .ref hc), (1, .int o), (2, .int a), (3, .int q), (4, .int (nI c9))]) (st' := [.int (f_Tree_lengthOf z ln o), .int a]) (pc' := 97) rfl rfl rfl rfl ?_
      refine gw_icmp_ne (tgt := 110) S dc_Card_isList_97 (by decide) (fun c_9 => ?_) (fun c_9 => ?_)
      · -- taken
        refine gw_iconst (v := 0) S dc_Card_isList_110 (by decide) ?_
        exact gw_zretR S g_r g_k rfl (by show _ = some (Value.int (il_f z n f ss ln o 8 0 0)); obtain ⟨k8, e8, e7, e6⟩ := l8_lt hc9 c_2; rw [hm9, e8]; simp only [il_f, il_e, if_pos c_7, if_neg c_9]) dc_Card_isList_111
      · -- not
        refine gw_iload_n S dc_Card_isList_100 rfl 3 rfl ?_
        refine gw_bipush (v := 40) S dc_Card_isList_101 (by decide) ?_
        refine gw_icmp_gt (tgt := 110) S dc_Card_isList_103 (by decide) (fun c_10 => ?_) (fun c_10 => ?_)
        · -- taken
          refine gw_iconst (v := 0) S dc_Card_isList_110 (by decide) ?_
          exact gw_zretR S g_r g_k rfl (by show _ = some (Value.int (il_f z n f ss ln o 8 0 0)); obtain ⟨k8, e8, e7, e6⟩ := l8_lt hc9 c_2; rw [hm9, e8]; simp only [il_f, il_e, if_pos c_7, if_pos c_9, if_pos c_10]) dc_Card_isList_111
        · -- not
          refine gw_iconst (v := 1) S dc_Card_isList_106 (by decide) ?_
          refine gw_goto (tgt := 111) S dc_Card_isList_107 (by decide) ?_
          exact gw_zretR S g_r g_k rfl (by show _ = some (Value.int (il_f z n f ss ln o 8 0 0)); obtain ⟨k8, e8, e7, e6⟩ := l8_lt hc9 c_2; rw [hm9, e8]; simp only [il_f, il_e, if_pos c_7, if_pos c_9, if_neg c_10]) dc_Card_isList_111
    · -- not
      refine gw_aload_n S dc_Card_isList_26 rfl 0 rfl ?_
      refine gw_get S hK.1 ic_Card rfl 0 (by decide) (gw_lk S mw_188) 0 rfl rfl dc_Card_isList_27 ?_
      refine gw_iload_n S dc_Card_isList_30 rfl 1 rfl ?_
      refine gw_iload_n S dc_Card_isList_31 rfl 2 rfl ?_
      refine gw_callVR (As := [.int o, .int a]) (st := []) S hK (c_Tree_tagOf l D cA ho hr ht hx hl hi z hb n f ss ln o a (by assumption) (by assumption)) (cw_Card_95 S.2.2.2.2 rfl rfl ⟨Nat.le_of_ble_eq_true rfl, Nat.le_of_ble_eq_true rfl⟩) [1, 2, 3, 5, 6] rfl (by decide) 0 rfl rfl rfl rfl rfl (Nat.le_of_ble_eq_true rfl) dc_Card_isList_32 ⟨Nat.le_of_ble_eq_true rfl, Nat.le_of_ble_eq_true rfl⟩ ?_
      rintro _ rfl
      refine gw_eq (ws' := [(hc, .inr (5, [.ref ho, .int ky, .int pn, .int tr, .int ct, .int rn, .int sn, .int ac, .int ed, .int md, .int mn, .int mo, .int lo, .int up])), (ho, .inr (4, [.ref hr, .ref ht, .ref hx, .ref hl, .ref hi, .int z])), (hr, .inr (0, [.ref hb, .int n])), (hb, .inl (cA 0, 60, .inl f)), (ht, .inl (cA 0, 30, .inl tg)), (hx, .inl (cA 0, 30, .inl ss)), (hl, .inl (cA 0, 30, .inl ln))]) (lv' := [(0, .ref hc), (1, .int o), (2, .int a), (3, .int q), (4, .int (nI c9))]) (st' := [.int (f_Tree_tagOf z n f ss ln o a)]) (pc' := 35) rfl rfl rfl rfl ?_
      refine gw_istore (lv' := [(5, .int (f_Tree_tagOf z n f ss ln o a)), (0, .ref hc), (1, .int o), (2, .int a), (3, .int q), (4, .int (nI c9))]) S dc_Card_isList_35 (by decide) rfl ?_
      refine gw_iload_n S dc_Card_isList_37 rfl 3 rfl ?_
      refine gw_iload S dc_Card_isList_38 0 rfl ?_
      refine gw_callSR (As := [.int (f_Tree_tagOf z n f ss ln o a)]) (st := [.int a]) S hK (c_Tag_bytesOf l D cA (f_Tree_tagOf z n f ss ln o a) ) (cw_Card_98 S.2.2.2.2 rfl rfl ⟨Nat.le_of_ble_eq_true rfl, Nat.le_of_ble_eq_true rfl⟩) [] rfl (by decide) rfl rfl (Nat.le_of_ble_eq_true rfl) dc_Card_isList_40 ⟨Nat.le_of_ble_eq_true rfl, Nat.le_of_ble_eq_true rfl⟩ ?_
      rintro _ rfl
      refine gw_eq (ws' := [(hc, .inr (5, [.ref ho, .int ky, .int pn, .int tr, .int ct, .int rn, .int sn, .int ac, .int ed, .int md, .int mn, .int mo, .int lo, .int up])), (ho, .inr (4, [.ref hr, .ref ht, .ref hx, .ref hl, .ref hi, .int z])), (hr, .inr (0, [.ref hb, .int n])), (hb, .inl (cA 0, 60, .inl f)), (ht, .inl (cA 0, 30, .inl tg)), (hx, .inl (cA 0, 30, .inl ss)), (hl, .inl (cA 0, 30, .inl ln))]) (lv' := [(5, .int (f_Tree_tagOf z n f ss ln o a)), (0, .ref hc), (1, .int o), (2, .int a), (3, .int q), (4, .int (nI c9))]) (st' := [.int (f_Tag_bytesOf (f_Tree_tagOf z n f ss ln o a)), .int a]) (pc' := 43) rfl rfl rfl rfl ?_
      refine gw_iadd S dc_Card_isList_43 ?_
      refine gw_istore (lv' := [(6, .int (a + (f_Tag_bytesOf (f_Tree_tagOf z n f ss ln o a)))), (5, .int (f_Tree_tagOf z n f ss ln o a)), (0, .ref hc), (1, .int o), (2, .int a), (3, .int q), (4, .int (nI c9))]) S dc_Card_isList_44 (by decide) rfl ?_
      refine gw_aload_n S dc_Card_isList_46 rfl 2 rfl ?_
      refine gw_get S hK.1 ic_Card rfl 0 (by decide) (gw_lk S mw_188) 0 rfl rfl dc_Card_isList_47 ?_
      refine gw_iload_n S dc_Card_isList_50 rfl 3 rfl ?_
      refine gw_iload S dc_Card_isList_51 0 rfl ?_
      refine gw_callVR (As := [.int o, .int (a + (f_Tag_bytesOf (f_Tree_tagOf z n f ss ln o a)))]) (st := []) S hK (c_Tree_byteOf l D cA ho hr ht hx hl hi z hb n f ss ln o (a + (f_Tag_bytesOf (f_Tree_tagOf z n f ss ln o a))) (by assumption) (by assumption)) (cw_Card_44 S.2.2.2.2 rfl rfl ⟨Nat.le_of_ble_eq_true rfl, Nat.le_of_ble_eq_true rfl⟩) [1, 2, 3, 5, 6] rfl (by decide) 0 rfl rfl rfl rfl rfl (Nat.le_of_ble_eq_true rfl) dc_Card_isList_53 ⟨Nat.le_of_ble_eq_true rfl, Nat.le_of_ble_eq_true rfl⟩ ?_
      rintro _ rfl
      refine gw_eq (ws' := [(hc, .inr (5, [.ref ho, .int ky, .int pn, .int tr, .int ct, .int rn, .int sn, .int ac, .int ed, .int md, .int mn, .int mo, .int lo, .int up])), (ho, .inr (4, [.ref hr, .ref ht, .ref hx, .ref hl, .ref hi, .int z])), (hr, .inr (0, [.ref hb, .int n])), (hb, .inl (cA 0, 60, .inl f)), (ht, .inl (cA 0, 30, .inl tg)), (hx, .inl (cA 0, 30, .inl ss)), (hl, .inl (cA 0, 30, .inl ln))]) (lv' := [(6, .int (a + (f_Tag_bytesOf (f_Tree_tagOf z n f ss ln o a)))), (5, .int (f_Tree_tagOf z n f ss ln o a)), (0, .ref hc), (1, .int o), (2, .int a), (3, .int q), (4, .int (nI c9))]) (st' := [.int (f_Tree_byteOf z n f ss ln o (a + (f_Tag_bytesOf (f_Tree_tagOf z n f ss ln o a))))]) (pc' := 56) rfl rfl rfl rfl ?_
      refine gw_istore (lv' := [(7, .int (f_Tree_byteOf z n f ss ln o (a + (f_Tag_bytesOf (f_Tree_tagOf z n f ss ln o a))))), (6, .int (a + (f_Tag_bytesOf (f_Tree_tagOf z n f ss ln o a)))), (5, .int (f_Tree_tagOf z n f ss ln o a)), (0, .ref hc), (1, .int o), (2, .int a), (3, .int q), (4, .int (nI c9))]) S dc_Card_isList_56 (by decide) rfl ?_
      refine gw_iload S dc_Card_isList_58 2 rfl ?_
      refine gw_iconst (v := -1) S dc_Card_isList_60 (by decide) ?_
      refine gw_icmp_eq (tgt := 70) S dc_Card_isList_61 (by decide) (fun c_14 => ?_) (fun c_14 => ?_)
      · -- taken
        refine gw_iconst (v := 0) S dc_Card_isList_70 (by decide) ?_
        exact gw_zretR S g_r g_k rfl (by show _ = some (Value.int (il_f z n f ss ln o 8 0 0)); obtain ⟨k8, e8, e7, e6⟩ := l8_lt hc9 c_2; rw [hm9, e8]; simp only [il_f, il_e, if_neg c_7, if_pos c_14]) dc_Card_isList_71
      · -- not
        refine gw_iload S dc_Card_isList_64 0 rfl ?_
        refine gw_iconst (v := -1) S dc_Card_isList_66 (by decide) ?_
        refine gw_icmp_ne (tgt := 72) S dc_Card_isList_67 (by decide) (fun c_15 => ?_) (fun c_15 => ?_)
        · -- taken
          refine gw_iload_n S dc_Card_isList_72 rfl 6 rfl ?_
          refine gw_iload S dc_Card_isList_73 0 rfl ?_
          refine gw_iadd S dc_Card_isList_75 ?_
          refine gw_istore_n (lv' := [(3, .int (q + (f_Tree_byteOf z n f ss ln o (a + (f_Tag_bytesOf (f_Tree_tagOf z n f ss ln o a)))))), (7, .int (f_Tree_byteOf z n f ss ln o (a + (f_Tag_bytesOf (f_Tree_tagOf z n f ss ln o a))))), (6, .int (a + (f_Tag_bytesOf (f_Tree_tagOf z n f ss ln o a)))), (5, .int (f_Tree_tagOf z n f ss ln o a)), (0, .ref hc), (1, .int o), (2, .int a), (4, .int (nI c9))]) S dc_Card_isList_76 rfl (by decide) rfl ?_
          refine gw_iload S dc_Card_isList_77 2 rfl ?_
          refine gw_iconst (v := 1) S dc_Card_isList_79 (by decide) ?_
          refine gw_iadd S dc_Card_isList_80 ?_
          refine gw_istore_n (lv' := [(2, .int ((a + (f_Tag_bytesOf (f_Tree_tagOf z n f ss ln o a))) + 1)), (3, .int (q + (f_Tree_byteOf z n f ss ln o (a + (f_Tag_bytesOf (f_Tree_tagOf z n f ss ln o a)))))), (7, .int (f_Tree_byteOf z n f ss ln o (a + (f_Tag_bytesOf (f_Tree_tagOf z n f ss ln o a))))), (6, .int (a + (f_Tag_bytesOf (f_Tree_tagOf z n f ss ln o a)))), (5, .int (f_Tree_tagOf z n f ss ln o a)), (0, .ref hc), (1, .int o), (4, .int (nI c9))]) S dc_Card_isList_81 rfl (by decide) rfl ?_
          refine gw_iinc (v := (nI c9) + 1) (lv' := [(4, .int ((nI c9) + 1)), (2, .int ((a + (f_Tag_bytesOf (f_Tree_tagOf z n f ss ln o a))) + 1)), (3, .int (q + (f_Tree_byteOf z n f ss ln o (a + (f_Tag_bytesOf (f_Tree_tagOf z n f ss ln o a)))))), (7, .int (f_Tree_byteOf z n f ss ln o (a + (f_Tag_bytesOf (f_Tree_tagOf z n f ss ln o a))))), (6, .int (a + (f_Tag_bytesOf (f_Tree_tagOf z n f ss ln o a)))), (5, .int (f_Tree_tagOf z n f ss ln o a)), (0, .ref hc), (1, .int o)]) S dc_Card_isList_82 7 rfl rfl (by decide) rfl ?_
          refine gw_goto (tgt := 7) S dc_Card_isList_85 (by decide) ?_
          refine gw_drop [6, 7, 1, 2, 0] (lv' := [(0, .ref hc), (1, .int o), (2, .int ((a + (f_Tag_bytesOf (f_Tree_tagOf z n f ss ln o a))) + 1)), (3, .int (q + (f_Tree_byteOf z n f ss ln o (a + (f_Tag_bytesOf (f_Tree_tagOf z n f ss ln o a)))))), (4, .int ((nI c9) + 1))]) rfl ?_
          refine gw_eq (ws' := [(hc, .inr (5, [.ref ho, .int ky, .int pn, .int tr, .int ct, .int rn, .int sn, .int ac, .int ed, .int md, .int mn, .int mo, .int lo, .int up])), (ho, .inr (4, [.ref hr, .ref ht, .ref hx, .ref hl, .ref hi, .int z])), (hr, .inr (0, [.ref hb, .int n])), (hb, .inl (cA 0, 60, .inl f)), (ht, .inl (cA 0, 30, .inl tg)), (hx, .inl (cA 0, 30, .inl ss)), (hl, .inl (cA 0, 30, .inl ln))]) (lv' := [(0, .ref hc), (1, .int o), (2, .int ((a + (f_Tag_bytesOf (f_Tree_tagOf z n f ss ln o a))) + 1)), (3, .int (q + (f_Tree_byteOf z n f ss ln o (a + (f_Tag_bytesOf (f_Tree_tagOf z n f ss ln o a)))))), (4, .int (nI (c9 + 1)))]) (st' := []) (pc' := 7) rfl (by simp only [nI_1]) rfl rfl ?_
          exact ih_1 (c9 + 1, (a + (f_Tag_bytesOf (f_Tree_tagOf z n f ss ln o a))) + 1, q + (f_Tree_byteOf z n f ss ln o (a + (f_Tag_bytesOf (f_Tree_tagOf z n f ss ln o a))))) ⟨(by obtain ⟨k8, e8, e7, e6⟩ := l8_lt hc9 c_2; exact e6), (by obtain ⟨k8, e8, e7, e6⟩ := l8_lt hc9 c_2; rw [hm9, e8, e7]; simp only [il_f, if_neg c_7, if_neg c_14, if_neg c_15])⟩ (by obtain ⟨k8, e8, e7, e6⟩ := l8_lt hc9 c_2; show 8 - (c9 + 1) < 8 - c9; omega)
        · -- not
          refine gw_iconst (v := 0) S dc_Card_isList_70 (by decide) ?_
          exact gw_zretR S g_r g_k rfl (by show _ = some (Value.int (il_f z n f ss ln o 8 0 0)); obtain ⟨k8, e8, e7, e6⟩ := l8_lt hc9 c_2; rw [hm9, e8]; simp only [il_f, il_e, if_neg c_7, if_neg c_14, if_pos c_15]) dc_Card_isList_71
def f_Card_fits (z : Int32) (n : Int32) (f : Nat → Int32) (tg : Nat → Int32) (ss : Nat → Int32) (ln : Nat → Int32) (t : Int32) : Int32 := if (ix_v (ix_f tg t (Int32.toNatClampNeg z) 0)) = (-1) then (if t = 90 then 0 else (if t = 140 then 0 else (if t = 24356 then 0 else (1)))) else (if t = 90 then (if (f_Tree_lengthOf z ln (ix_v (ix_f tg t (Int32.toNatClampNeg z) 0))) = 1 then (if 8 ≤ (f_Tree_byteOf z n f ss ln (ix_v (ix_f tg t (Int32.toNatClampNeg z) 0)) 0) then 0 else (1)) else (0)) else (if t = 140 then (f_isl z n f ss ln (ix_v (ix_f tg t (Int32.toNatClampNeg z) 0))) else (if t = 142 then (if ((f_Tree_lengthOf z ln (ix_v (ix_f tg t (Int32.toNatClampNeg z) 0))) - (f_Tree_lengthOf z ln (ix_v (ix_f tg t (Int32.toNatClampNeg z) 0))) / 2 * 2) = 0 then (if (f_PC_isWithin (f_Tree_lengthOf z ln (ix_v (ix_f tg t (Int32.toNatClampNeg z) 0))) 2 12) = 0 then 0 else (1)) else (0)) else (if t = 40724 then (if (f_Tree_lengthOf z ln (ix_v (ix_f tg t (Int32.toNatClampNeg z) 0))) = 1 then 1 else (0)) else (if t = 40739 then (if (f_Tree_lengthOf z ln (ix_v (ix_f tg t (Int32.toNatClampNeg z) 0))) = 1 then 1 else (0)) else (if (f_Tree_lengthOf z ln (ix_v (ix_f tg t (Int32.toNatClampNeg z) 0))) = 2 then 1 else (0)))))))
theorem b_Card_fits (z : Int32) (n : Int32) (f : Nat → Int32) (tg : Nat → Int32) (ss : Nat → Int32) (ln : Nat → Int32) (t : Int32) : f_Card_fits z n f tg ss ln t = 0 ∨ f_Card_fits z n f tg ss ln t = 1 := by
  unfold f_Card_fits
  exact (bo_ite (bo_ite (Or.inl rfl) (bo_ite (Or.inl rfl) (bo_ite (Or.inl rfl) (Or.inr rfl)))) (bo_ite (bo_ite (bo_ite (Or.inl rfl) (Or.inr rfl)) (Or.inl rfl)) (bo_ite (b_isl z n f ss ln (ix_v (ix_f tg t (Int32.toNatClampNeg z) 0))) (bo_ite (bo_ite (bo_ite (Or.inl rfl) (Or.inr rfl)) (Or.inl rfl)) (bo_ite (bo_ite (Or.inr rfl) (Or.inl rfl)) (bo_ite (bo_ite (Or.inr rfl) (Or.inl rfl)) (bo_ite (Or.inr rfl) (Or.inl rfl))))))))
set_option maxRecDepth 100000 in
set_option maxHeartbeats 4000000 in
theorem c_Card_fits (l : Launch) (D : va_G) (cA : Nat → ClassId) (hc : Nat) (ho : Nat) (ky : Int32) (pn : Int32) (tr : Int32) (ct : Int32) (rn : Int32) (sn : Int32) (ac : Int32) (ed : Int32) (md : Int32) (mn : Int32) (mo : Int32) (lo : Int32) (up : Int32) (hr : Nat) (ht : Nat) (hx : Nat) (hl : Nat) (hi : Nat) (z : Int32) (hb : Nat) (n : Int32) (f : Nat → Int32) (tg : Nat → Int32) (ss : Nat → Int32) (ln : Nat → Int32) (t : Int32) (hz : rw_ok z 30) (hN : rw_ok n 60) : ct_R l D cA yn_Card_fits cd_Card_fits 5 [.ref hc, .int t] [(hc, .inr (5, [.ref ho, .int ky, .int pn, .int tr, .int ct, .int rn, .int sn, .int ac, .int ed, .int md, .int mn, .int mo, .int lo, .int up])), (ho, .inr (4, [.ref hr, .ref ht, .ref hx, .ref hl, .ref hi, .int z])), (hr, .inr (0, [.ref hb, .int n])), (hb, .inl (cA 0, 60, .inl f)), (ht, .inl (cA 0, 30, .inl tg)), (hx, .inl (cA 0, 30, .inl ss)), (hl, .inl (cA 0, 30, .inl ln))] (fun v_ => v_ = some (.int (f_Card_fits z n f tg ss ln t))) := by
  refine gw_metR (by decide) rfl (Nat.le_of_ble_eq_true rfl) ?_
  intro p_ e_ s_ m_ args_ below_ meth_ c_ S g_r g_k hK
  refine gw_eq (ws' := [(hc, .inr (5, [.ref ho, .int ky, .int pn, .int tr, .int ct, .int rn, .int sn, .int ac, .int ed, .int md, .int mn, .int mo, .int lo, .int up])), (ho, .inr (4, [.ref hr, .ref ht, .ref hx, .ref hl, .ref hi, .int z])), (hr, .inr (0, [.ref hb, .int n])), (hb, .inl (cA 0, 60, .inl f)), (ht, .inl (cA 0, 30, .inl tg)), (hx, .inl (cA 0, 30, .inl ss)), (hl, .inl (cA 0, 30, .inl ln))]) (lv' := [(0, .ref hc), (1, .int t)]) (st' := []) (pc' := 0) rfl rfl rfl rfl ?_
  refine gw_aload_n S dc_Card_fits_0 rfl 0 rfl ?_
  refine gw_get S hK.1 ic_Card rfl 0 (by decide) (gw_lk S mw_188) 0 rfl rfl dc_Card_fits_1 ?_
  refine gw_iload_n S dc_Card_fits_4 rfl 1 rfl ?_
  refine gw_callVR (As := [.int t]) (st := []) S hK (c_Tree_first l D cA ho hr ht hx hl hi z tg t (by assumption)) (cw_Card_40 S.2.2.2.2 rfl rfl ⟨Nat.le_of_ble_eq_true rfl, Nat.le_of_ble_eq_true rfl⟩) [1, 4] rfl (by decide) 0 rfl rfl rfl rfl rfl (Nat.le_of_ble_eq_true rfl) dc_Card_fits_5 ⟨Nat.le_of_ble_eq_true rfl, Nat.le_of_ble_eq_true rfl⟩ ?_
  rintro _ rfl
  refine gw_eq (ws' := [(hc, .inr (5, [.ref ho, .int ky, .int pn, .int tr, .int ct, .int rn, .int sn, .int ac, .int ed, .int md, .int mn, .int mo, .int lo, .int up])), (ho, .inr (4, [.ref hr, .ref ht, .ref hx, .ref hl, .ref hi, .int z])), (hr, .inr (0, [.ref hb, .int n])), (hb, .inl (cA 0, 60, .inl f)), (ht, .inl (cA 0, 30, .inl tg)), (hx, .inl (cA 0, 30, .inl ss)), (hl, .inl (cA 0, 30, .inl ln))]) (lv' := [(0, .ref hc), (1, .int t)]) (st' := [.int (ix_v (ix_f tg t (Int32.toNatClampNeg z) 0))]) (pc' := 8) rfl rfl rfl rfl ?_
  refine gw_istore_n (lv' := [(2, .int (ix_v (ix_f tg t (Int32.toNatClampNeg z) 0))), (0, .ref hc), (1, .int t)]) S dc_Card_fits_8 rfl (by decide) rfl ?_
  refine gw_iload_n S dc_Card_fits_9 rfl 0 rfl ?_
  refine gw_iconst (v := -1) S dc_Card_fits_10 (by decide) ?_
  refine gw_icmp_ne (tgt := 40) S dc_Card_fits_11 (by decide) (fun c_2 => ?_) (fun c_2 => ?_)
  · -- taken
    refine gw_aload_n S dc_Card_fits_40 rfl 1 rfl ?_
    refine gw_get S hK.1 ic_Card rfl 0 (by decide) (gw_lk S mw_188) 0 rfl rfl dc_Card_fits_41 ?_
    refine gw_iload_n S dc_Card_fits_44 rfl 0 rfl ?_
    refine gw_callVR (As := [.int (ix_v (ix_f tg t (Int32.toNatClampNeg z) 0))]) (st := []) S hK (c_Tree_lengthOf l D cA ho hr ht hx hl hi z ln (ix_v (ix_f tg t (Int32.toNatClampNeg z) 0)) (by assumption)) (cw_Card_85 S.2.2.2.2 rfl rfl ⟨Nat.le_of_ble_eq_true rfl, Nat.le_of_ble_eq_true rfl⟩) [1, 6] rfl (by decide) 0 rfl rfl rfl rfl rfl (Nat.le_of_ble_eq_true rfl) dc_Card_fits_45 ⟨Nat.le_of_ble_eq_true rfl, Nat.le_of_ble_eq_true rfl⟩ ?_
    rintro _ rfl
    refine gw_eq (ws' := [(hc, .inr (5, [.ref ho, .int ky, .int pn, .int tr, .int ct, .int rn, .int sn, .int ac, .int ed, .int md, .int mn, .int mo, .int lo, .int up])), (ho, .inr (4, [.ref hr, .ref ht, .ref hx, .ref hl, .ref hi, .int z])), (hr, .inr (0, [.ref hb, .int n])), (hb, .inl (cA 0, 60, .inl f)), (ht, .inl (cA 0, 30, .inl tg)), (hx, .inl (cA 0, 30, .inl ss)), (hl, .inl (cA 0, 30, .inl ln))]) (lv' := [(2, .int (ix_v (ix_f tg t (Int32.toNatClampNeg z) 0))), (0, .ref hc), (1, .int t)]) (st' := [.int (f_Tree_lengthOf z ln (ix_v (ix_f tg t (Int32.toNatClampNeg z) 0)))]) (pc' := 48) rfl rfl rfl rfl ?_
    refine gw_istore_n (lv' := [(3, .int (f_Tree_lengthOf z ln (ix_v (ix_f tg t (Int32.toNatClampNeg z) 0)))), (2, .int (ix_v (ix_f tg t (Int32.toNatClampNeg z) 0))), (0, .ref hc), (1, .int t)]) S dc_Card_fits_48 rfl (by decide) rfl ?_
    refine gw_iload_n S dc_Card_fits_49 rfl 3 rfl ?_
    rcases Classical.em (t = 90) with c_4 | c_4
    · -- case 90
      refine gw_lookup (tgt := 100) (off := 50) S dc_Card_fits_50 (by decide) (by first | (rw [c_4]; done) | (rw [c_4]; rfl)) (by decide) ?_
      refine gw_iload_n S dc_Card_fits_100 rfl 0 rfl ?_
      refine gw_iconst (v := 1) S dc_Card_fits_101 (by decide) ?_
      refine gw_icmp_ne (tgt := 123) S dc_Card_fits_102 (by decide) (fun c_5 => ?_) (fun c_5 => ?_)
      · -- taken
        refine gw_iconst (v := 0) S dc_Card_fits_123 (by decide) ?_
        exact gw_zretR S g_r g_k rfl (by simp only [f_Card_fits, if_neg c_2, if_pos c_4, if_neg c_5]) dc_Card_fits_124
      · -- not
        refine gw_aload_n S dc_Card_fits_105 rfl 2 rfl ?_
        refine gw_get S hK.1 ic_Card rfl 0 (by decide) (gw_lk S mw_188) 0 rfl rfl dc_Card_fits_106 ?_
        refine gw_iload_n S dc_Card_fits_109 rfl 1 rfl ?_
        refine gw_iconst (v := 0) S dc_Card_fits_110 (by decide) ?_
        refine gw_callVR (As := [.int (ix_v (ix_f tg t (Int32.toNatClampNeg z) 0)), .int 0]) (st := []) S hK (c_Tree_byteOf l D cA ho hr ht hx hl hi z hb n f ss ln (ix_v (ix_f tg t (Int32.toNatClampNeg z) 0)) 0 (by assumption) (by assumption)) (cw_Card_44 S.2.2.2.2 rfl rfl ⟨Nat.le_of_ble_eq_true rfl, Nat.le_of_ble_eq_true rfl⟩) [1, 2, 3, 5, 6] rfl (by decide) 0 rfl rfl rfl rfl rfl (Nat.le_of_ble_eq_true rfl) dc_Card_fits_111 ⟨Nat.le_of_ble_eq_true rfl, Nat.le_of_ble_eq_true rfl⟩ ?_
        rintro _ rfl
        refine gw_eq (ws' := [(hc, .inr (5, [.ref ho, .int ky, .int pn, .int tr, .int ct, .int rn, .int sn, .int ac, .int ed, .int md, .int mn, .int mo, .int lo, .int up])), (ho, .inr (4, [.ref hr, .ref ht, .ref hx, .ref hl, .ref hi, .int z])), (hr, .inr (0, [.ref hb, .int n])), (hb, .inl (cA 0, 60, .inl f)), (ht, .inl (cA 0, 30, .inl tg)), (hx, .inl (cA 0, 30, .inl ss)), (hl, .inl (cA 0, 30, .inl ln))]) (lv' := [(3, .int (f_Tree_lengthOf z ln (ix_v (ix_f tg t (Int32.toNatClampNeg z) 0)))), (2, .int (ix_v (ix_f tg t (Int32.toNatClampNeg z) 0))), (0, .ref hc), (1, .int t)]) (st' := [.int (f_Tree_byteOf z n f ss ln (ix_v (ix_f tg t (Int32.toNatClampNeg z) 0)) 0)]) (pc' := 114) rfl rfl rfl rfl ?_
        refine gw_bipush (v := 8) S dc_Card_fits_114 (by decide) ?_
        refine gw_icmp_ge (tgt := 123) S dc_Card_fits_116 (by decide) (fun c_7 => ?_) (fun c_7 => ?_)
        · -- taken
          refine gw_iconst (v := 0) S dc_Card_fits_123 (by decide) ?_
          exact gw_zretR S g_r g_k rfl (by simp only [f_Card_fits, if_neg c_2, if_pos c_4, if_pos c_5, if_pos c_7]) dc_Card_fits_124
        · -- not
          refine gw_iconst (v := 1) S dc_Card_fits_119 (by decide) ?_
          refine gw_goto (tgt := 124) S dc_Card_fits_120 (by decide) ?_
          exact gw_zretR S g_r g_k rfl (by simp only [f_Card_fits, if_neg c_2, if_pos c_4, if_pos c_5, if_neg c_7]) dc_Card_fits_124
    · -- else
      rcases Classical.em (t = 140) with c_8 | c_8
      · -- case 140
        refine gw_lookup (tgt := 125) (off := 75) S dc_Card_fits_50 (by decide) (by first | (rw [c_8]; done) | (rw [c_8]; rfl)) (by decide) ?_
        refine gw_aload_n S dc_Card_fits_125 rfl 2 rfl ?_
        refine gw_iload_n S dc_Card_fits_126 rfl 1 rfl ?_
        refine gw_callVR (As := [.int (ix_v (ix_f tg t (Int32.toNatClampNeg z) 0))]) (st := []) S hK (c_Card_isList l D cA hc ho ky pn tr ct rn sn ac ed md mn mo lo up hr ht hx hl hi z hb n f tg ss ln (ix_v (ix_f tg t (Int32.toNatClampNeg z) 0)) (by assumption) (by assumption)) (cw_Card_88 S.2.2.2.2 rfl rfl ⟨Nat.le_of_ble_eq_true rfl, Nat.le_of_ble_eq_true rfl⟩) [0, 1, 2, 3, 4, 5, 6] rfl (by decide) 0 rfl rfl rfl rfl rfl (Nat.le_of_ble_eq_true rfl) dc_Card_fits_127 ⟨Nat.le_of_ble_eq_true rfl, Nat.le_of_ble_eq_true rfl⟩ ?_
        rintro _ rfl
        refine gw_eq (ws' := [(hc, .inr (5, [.ref ho, .int ky, .int pn, .int tr, .int ct, .int rn, .int sn, .int ac, .int ed, .int md, .int mn, .int mo, .int lo, .int up])), (ho, .inr (4, [.ref hr, .ref ht, .ref hx, .ref hl, .ref hi, .int z])), (hr, .inr (0, [.ref hb, .int n])), (hb, .inl (cA 0, 60, .inl f)), (ht, .inl (cA 0, 30, .inl tg)), (hx, .inl (cA 0, 30, .inl ss)), (hl, .inl (cA 0, 30, .inl ln))]) (lv' := [(3, .int (f_Tree_lengthOf z ln (ix_v (ix_f tg t (Int32.toNatClampNeg z) 0)))), (2, .int (ix_v (ix_f tg t (Int32.toNatClampNeg z) 0))), (0, .ref hc), (1, .int t)]) (st' := [.int (f_isl z n f ss ln (ix_v (ix_f tg t (Int32.toNatClampNeg z) 0)))]) (pc' := 130) rfl rfl rfl rfl ?_
        exact gw_zretR S g_r g_k (z_cx (b_isl z n f ss ln (ix_v (ix_f tg t (Int32.toNatClampNeg z) 0)))) (by simp only [f_Card_fits, if_neg c_2, if_neg c_4, if_pos c_8]) dc_Card_fits_130
      · -- else
        rcases Classical.em (t = 142) with c_10 | c_10
        · -- case 142
          refine gw_lookup (tgt := 131) (off := 81) S dc_Card_fits_50 (by decide) (by first | (rw [c_10]; done) | (rw [c_10]; rfl)) (by decide) ?_
          refine gw_iload_n S dc_Card_fits_131 rfl 0 rfl ?_
          refine gw_iconst (v := 2) S dc_Card_fits_132 (by decide) ?_
          refine gw_irem S dc_Card_fits_133 (by decide) ?_
          refine gw_if_ne (tgt := 151) S dc_Card_fits_134 (by decide) (fun c_11 => ?_) (fun c_11 => ?_)
          · -- taken
            refine gw_iconst (v := 0) S dc_Card_fits_151 (by decide) ?_
            exact gw_zretR S g_r g_k rfl (by simp only [f_Card_fits, if_neg c_2, if_neg c_4, if_neg c_8, if_pos c_10, if_neg c_11]) dc_Card_fits_152
          · -- not
            refine gw_iload_n S dc_Card_fits_137 rfl 0 rfl ?_
            refine gw_iconst (v := 2) S dc_Card_fits_138 (by decide) ?_
            refine gw_bipush (v := 12) S dc_Card_fits_139 (by decide) ?_
            refine gw_callSNR (As := [.int (f_Tree_lengthOf z ln (ix_v (ix_f tg t (Int32.toNatClampNeg z) 0))), .int 2, .int 12]) (st := []) S hK (c_PC_isWithin l D cA (f_Tree_lengthOf z ln (ix_v (ix_f tg t (Int32.toNatClampNeg z) 0))) 2 12 ) (cw_Card_91 S.2.2.2.2 rfl rfl ⟨Nat.le_of_ble_eq_true rfl, Nat.le_of_ble_eq_true rfl⟩ (hK.2 _ mn_386).2) [] rfl (by decide) rfl rfl (Nat.le_of_ble_eq_true rfl) dc_Card_fits_141 ⟨Nat.le_of_ble_eq_true rfl, Nat.le_of_ble_eq_true rfl⟩ ?_
            rintro _ rfl
            refine gw_eq (ws' := [(hc, .inr (5, [.ref ho, .int ky, .int pn, .int tr, .int ct, .int rn, .int sn, .int ac, .int ed, .int md, .int mn, .int mo, .int lo, .int up])), (ho, .inr (4, [.ref hr, .ref ht, .ref hx, .ref hl, .ref hi, .int z])), (hr, .inr (0, [.ref hb, .int n])), (hb, .inl (cA 0, 60, .inl f)), (ht, .inl (cA 0, 30, .inl tg)), (hx, .inl (cA 0, 30, .inl ss)), (hl, .inl (cA 0, 30, .inl ln))]) (lv' := [(3, .int (f_Tree_lengthOf z ln (ix_v (ix_f tg t (Int32.toNatClampNeg z) 0)))), (2, .int (ix_v (ix_f tg t (Int32.toNatClampNeg z) 0))), (0, .ref hc), (1, .int t)]) (st' := [.int (f_PC_isWithin (f_Tree_lengthOf z ln (ix_v (ix_f tg t (Int32.toNatClampNeg z) 0))) 2 12)]) (pc' := 144) rfl rfl rfl rfl ?_
            refine gw_if_eq (tgt := 151) S dc_Card_fits_144 (by decide) (fun c_13 => ?_) (fun c_13 => ?_)
            · -- taken
              refine gw_iconst (v := 0) S dc_Card_fits_151 (by decide) ?_
              exact gw_zretR S g_r g_k rfl (by simp only [f_Card_fits, if_neg c_2, if_neg c_4, if_neg c_8, if_pos c_10, if_pos c_11, if_pos c_13]) dc_Card_fits_152
            · -- not
              refine gw_iconst (v := 1) S dc_Card_fits_147 (by decide) ?_
              refine gw_goto (tgt := 152) S dc_Card_fits_148 (by decide) ?_
              exact gw_zretR S g_r g_k rfl (by simp only [f_Card_fits, if_neg c_2, if_neg c_4, if_neg c_8, if_pos c_10, if_pos c_11, if_neg c_13]) dc_Card_fits_152
        · -- else
          rcases Classical.em (t = 40724) with c_14 | c_14
          · -- case 40724
            refine gw_lookup (tgt := 153) (off := 103) S dc_Card_fits_50 (by decide) (by first | (rw [c_14]; done) | (rw [c_14]; rfl)) (by decide) ?_
            refine gw_iload_n S dc_Card_fits_153 rfl 0 rfl ?_
            refine gw_iconst (v := 1) S dc_Card_fits_154 (by decide) ?_
            refine gw_icmp_ne (tgt := 162) S dc_Card_fits_155 (by decide) (fun c_15 => ?_) (fun c_15 => ?_)
            · -- taken
              refine gw_iconst (v := 0) S dc_Card_fits_162 (by decide) ?_
              exact gw_zretR S g_r g_k rfl (by simp only [f_Card_fits, if_neg c_2, if_neg c_4, if_neg c_8, if_neg c_10, if_pos c_14, if_neg c_15]) dc_Card_fits_163
            · -- not
              refine gw_iconst (v := 1) S dc_Card_fits_158 (by decide) ?_
              refine gw_goto (tgt := 163) S dc_Card_fits_159 (by decide) ?_
              exact gw_zretR S g_r g_k rfl (by simp only [f_Card_fits, if_neg c_2, if_neg c_4, if_neg c_8, if_neg c_10, if_pos c_14, if_pos c_15]) dc_Card_fits_163
          · -- else
            rcases Classical.em (t = 40739) with c_16 | c_16
            · -- case 40739
              refine gw_lookup (tgt := 153) (off := 103) S dc_Card_fits_50 (by decide) (by first | (rw [c_16]; done) | (rw [c_16]; rfl)) (by decide) ?_
              refine gw_iload_n S dc_Card_fits_153 rfl 0 rfl ?_
              refine gw_iconst (v := 1) S dc_Card_fits_154 (by decide) ?_
              refine gw_icmp_ne (tgt := 162) S dc_Card_fits_155 (by decide) (fun c_17 => ?_) (fun c_17 => ?_)
              · -- taken
                refine gw_iconst (v := 0) S dc_Card_fits_162 (by decide) ?_
                exact gw_zretR S g_r g_k rfl (by simp only [f_Card_fits, if_neg c_2, if_neg c_4, if_neg c_8, if_neg c_10, if_neg c_14, if_pos c_16, if_neg c_17]) dc_Card_fits_163
              · -- not
                refine gw_iconst (v := 1) S dc_Card_fits_158 (by decide) ?_
                refine gw_goto (tgt := 163) S dc_Card_fits_159 (by decide) ?_
                exact gw_zretR S g_r g_k rfl (by simp only [f_Card_fits, if_neg c_2, if_neg c_4, if_neg c_8, if_neg c_10, if_neg c_14, if_pos c_16, if_pos c_17]) dc_Card_fits_163
            · -- else
              refine gw_lookup (tgt := 164) (off := 114) S dc_Card_fits_50 (by decide) ((lv_osw c_4 (by decide)).trans ((lv_osw c_8 (by decide)).trans ((lv_osw c_10 (by decide)).trans ((lv_osw c_14 (by decide)).trans ((lv_osw c_16 (by decide)).trans rfl))))) (by decide) ?_
              refine gw_iload_n S dc_Card_fits_164 rfl 0 rfl ?_
              refine gw_iconst (v := 2) S dc_Card_fits_165 (by decide) ?_
              refine gw_icmp_ne (tgt := 173) S dc_Card_fits_166 (by decide) (fun c_18 => ?_) (fun c_18 => ?_)
              · -- taken
                refine gw_iconst (v := 0) S dc_Card_fits_173 (by decide) ?_
                exact gw_zretR S g_r g_k rfl (by simp only [f_Card_fits, if_neg c_2, if_neg c_4, if_neg c_8, if_neg c_10, if_neg c_14, if_neg c_16, if_neg c_18]) dc_Card_fits_174
              · -- not
                refine gw_iconst (v := 1) S dc_Card_fits_169 (by decide) ?_
                refine gw_goto (tgt := 174) S dc_Card_fits_170 (by decide) ?_
                exact gw_zretR S g_r g_k rfl (by simp only [f_Card_fits, if_neg c_2, if_neg c_4, if_neg c_8, if_neg c_10, if_neg c_14, if_neg c_16, if_pos c_18]) dc_Card_fits_174
  · -- not
    refine gw_iload_n S dc_Card_fits_14 rfl 2 rfl ?_
    refine gw_bipush (v := 90) S dc_Card_fits_15 (by decide) ?_
    refine gw_icmp_eq (tgt := 38) S dc_Card_fits_17 (by decide) (fun c_19 => ?_) (fun c_19 => ?_)
    · -- taken
      refine gw_iconst (v := 0) S dc_Card_fits_38 (by decide) ?_
      exact gw_zretR S g_r g_k rfl (by simp only [f_Card_fits, if_pos c_2, if_pos c_19]) dc_Card_fits_39
    · -- not
      refine gw_iload_n S dc_Card_fits_20 rfl 2 rfl ?_
      refine gw_sipush (v := 140) S dc_Card_fits_21 (by decide) ?_
      refine gw_icmp_eq (tgt := 38) S dc_Card_fits_24 (by decide) (fun c_20 => ?_) (fun c_20 => ?_)
      · -- taken
        refine gw_iconst (v := 0) S dc_Card_fits_38 (by decide) ?_
        exact gw_zretR S g_r g_k rfl (by simp only [f_Card_fits, if_pos c_2, if_neg c_19, if_pos c_20]) dc_Card_fits_39
      · -- not
        refine gw_iload_n S dc_Card_fits_27 rfl 2 rfl ?_
        refine gw_sipush (v := 24356) S dc_Card_fits_28 (by decide) ?_
        refine gw_icmp_eq (tgt := 38) S dc_Card_fits_31 (by decide) (fun c_21 => ?_) (fun c_21 => ?_)
        · -- taken
          refine gw_iconst (v := 0) S dc_Card_fits_38 (by decide) ?_
          exact gw_zretR S g_r g_k rfl (by simp only [f_Card_fits, if_pos c_2, if_neg c_19, if_neg c_20, if_pos c_21]) dc_Card_fits_39
        · -- not
          refine gw_iconst (v := 1) S dc_Card_fits_34 (by decide) ?_
          refine gw_goto (tgt := 39) S dc_Card_fits_35 (by decide) ?_
          exact gw_zretR S g_r g_k rfl (by simp only [f_Card_fits, if_pos c_2, if_neg c_19, if_neg c_20, if_neg c_21]) dc_Card_fits_39
def f_Card_reset_accountNumber (z : Int32) (n : Int32) (f : Nat → Int32) (tg : Nat → Int32) (ss : Nat → Int32) (ln : Nat → Int32) : Int32 := f_Tree_byteOf z n f ss ln (ix_v (ix_f tg 90 (Int32.toNatClampNeg z) 0)) 0
def f_Card_reset_endDay (z : Int32) (n : Int32) (f : Nat → Int32) (tg : Nat → Int32) (ss : Nat → Int32) (ln : Nat → Int32) : Int32 := f_Tree_pairOf z n f ss ln (ix_v (ix_f tg 24356 (Int32.toNatClampNeg z) 0))
def f_Card_reset_maskDefault (z : Int32) (n : Int32) (f : Nat → Int32) (tg : Nat → Int32) (ss : Nat → Int32) (ln : Nat → Int32) : Int32 := f_Tree_pairOf z n f ss ln (ix_v (ix_f tg 40717 (Int32.toNatClampNeg z) 0))
def f_Card_reset_maskDenial (z : Int32) (n : Int32) (f : Nat → Int32) (tg : Nat → Int32) (ss : Nat → Int32) (ln : Nat → Int32) : Int32 := f_Tree_pairOf z n f ss ln (ix_v (ix_f tg 40718 (Int32.toNatClampNeg z) 0))
def f_Card_reset_maskOnline (z : Int32) (n : Int32) (f : Nat → Int32) (tg : Nat → Int32) (ss : Nat → Int32) (ln : Nat → Int32) : Int32 := f_Tree_pairOf z n f ss ln (ix_v (ix_f tg 40719 (Int32.toNatClampNeg z) 0))
def f_Card_reset_lower (z : Int32) (n : Int32) (f : Nat → Int32) (tg : Nat → Int32) (ss : Nat → Int32) (ln : Nat → Int32) : Int32 := f_Tree_byteOf z n f ss ln (ix_v (ix_f tg 40724 (Int32.toNatClampNeg z) 0)) 0
def f_Card_reset_upper (z : Int32) (n : Int32) (f : Nat → Int32) (tg : Nat → Int32) (ss : Nat → Int32) (ln : Nat → Int32) : Int32 := f_Tree_byteOf z n f ss ln (ix_v (ix_f tg 40739 (Int32.toNatClampNeg z) 0)) 0
set_option maxRecDepth 100000 in
set_option maxHeartbeats 4000000 in
theorem c_Card_reset (l : Launch) (D : va_G) (cA : Nat → ClassId) (sz : Nat) (hc : Nat) (ho : Nat) (ky : Int32) (pn : Int32) (tr : Int32) (ct : Int32) (rn : Int32) (sn : Int32) (ac : Int32) (ed : Int32) (md : Int32) (mn : Int32) (mo : Int32) (lo : Int32) (up : Int32) (hr : Nat) (ht : Nat) (hx : Nat) (hl : Nat) (hi : Nat) (z : Int32) (hb : Nat) (n : Int32) (f : Nat → Int32) (tg : Nat → Int32) (ss : Nat → Int32) (ln : Nat → Int32) (x : Int32) (y : Int32) (hz : rw_ok z 30) (hN : rw_ok n 60) : ct_M l D cA yn_Card_reset cd_Card_reset 5 0 0 sz [.ref hc, .int x, .int y] [(hc, .inr (5, [.ref ho, .int ky, .int pn, .int tr, .int ct, .int rn, .int sn, .int ac, .int ed, .int md, .int mn, .int mo, .int lo, .int up])), (ho, .inr (4, [.ref hr, .ref ht, .ref hx, .ref hl, .ref hi, .int z])), (hr, .inr (0, [.ref hb, .int n])), (hb, .inl (cA 0, 60, .inl f)), (ht, .inl (cA 0, 30, .inl tg)), (hx, .inl (cA 0, 30, .inl ss)), (hl, .inl (cA 0, 30, .inl ln))] (fun v_ w_ => v_ = none ∧ w_ = [(hc, .inr (5, [.ref ho, .int x, .int y, .int 3, .int 0, .int 0, .int 0, .int (f_Card_reset_accountNumber z n f tg ss ln), .int (f_Card_reset_endDay z n f tg ss ln), .int (f_Card_reset_maskDefault z n f tg ss ln), .int (f_Card_reset_maskDenial z n f tg ss ln), .int (f_Card_reset_maskOnline z n f tg ss ln), .int (f_Card_reset_lower z n f tg ss ln), .int (f_Card_reset_upper z n f tg ss ln)])), (ho, .inr (4, [.ref hr, .ref ht, .ref hx, .ref hl, .ref hi, .int z])), (hr, .inr (0, [.ref hb, .int n])), (hb, .inl (cA 0, 60, .inl f)), (ht, .inl (cA 0, 30, .inl tg)), (hx, .inl (cA 0, 30, .inl ss)), (hl, .inl (cA 0, 30, .inl ln))]) := by
  refine gw_met (by decide) rfl (Nat.le_of_ble_eq_true rfl) ?_
  intro p_ e_ s_ m_ args_ below_ meth_ c_ A_ S g_r g_k g_n hK hA
  refine gw_eq (ws' := [(hc, .inr (5, [.ref ho, .int ky, .int pn, .int tr, .int ct, .int rn, .int sn, .int ac, .int ed, .int md, .int mn, .int mo, .int lo, .int up])), (ho, .inr (4, [.ref hr, .ref ht, .ref hx, .ref hl, .ref hi, .int z])), (hr, .inr (0, [.ref hb, .int n])), (hb, .inl (cA 0, 60, .inl f)), (ht, .inl (cA 0, 30, .inl tg)), (hx, .inl (cA 0, 30, .inl ss)), (hl, .inl (cA 0, 30, .inl ln))]) (lv' := [(0, .ref hc), (1, .int x), (2, .int y)]) (st' := []) (pc' := 0) rfl rfl rfl rfl ?_
  refine gw_aload_n S dc_Card_reset_0 rfl 0 rfl ?_
  refine gw_iload_n S dc_Card_reset_1 rfl 1 rfl ?_
  refine gw_put (ws' := [(hc, .inr (5, [.ref ho, .int x, .int pn, .int tr, .int ct, .int rn, .int sn, .int ac, .int ed, .int md, .int mn, .int mo, .int lo, .int up])), (ho, .inr (4, [.ref hr, .ref ht, .ref hx, .ref hl, .ref hi, .int z])), (hr, .inr (0, [.ref hb, .int n])), (hb, .inl (cA 0, 60, .inl f)), (ht, .inl (cA 0, 30, .inl tg)), (hx, .inl (cA 0, 30, .inl ss)), (hl, .inl (cA 0, 30, .inl ln))]) (ty := .int) S hK.1 ic_Card rfl 1 (by decide) ty_Card to_Card nm_Card (gw_lk S mw_191) 0 rfl rfl (by decide +kernel) rfl rfl (Nat.le_of_ble_eq_true rfl) rfl dc_Card_reset_2 ?_
  refine gw_aload_n S dc_Card_reset_5 rfl 0 rfl ?_
  refine gw_iload_n S dc_Card_reset_6 rfl 2 rfl ?_
  refine gw_put (ws' := [(hc, .inr (5, [.ref ho, .int x, .int y, .int tr, .int ct, .int rn, .int sn, .int ac, .int ed, .int md, .int mn, .int mo, .int lo, .int up])), (ho, .inr (4, [.ref hr, .ref ht, .ref hx, .ref hl, .ref hi, .int z])), (hr, .inr (0, [.ref hb, .int n])), (hb, .inl (cA 0, 60, .inl f)), (ht, .inl (cA 0, 30, .inl tg)), (hx, .inl (cA 0, 30, .inl ss)), (hl, .inl (cA 0, 30, .inl ln))]) (ty := .int) S hK.1 ic_Card rfl 2 (by decide) ty_Card to_Card nm_Card (gw_lk S mw_193) 0 rfl rfl (by decide +kernel) rfl rfl (Nat.le_of_ble_eq_true rfl) rfl dc_Card_reset_7 ?_
  refine gw_aload_n S dc_Card_reset_10 rfl 0 rfl ?_
  refine gw_iconst (v := 3) S dc_Card_reset_11 (by decide) ?_
  refine gw_put (ws' := [(hc, .inr (5, [.ref ho, .int x, .int y, .int 3, .int ct, .int rn, .int sn, .int ac, .int ed, .int md, .int mn, .int mo, .int lo, .int up])), (ho, .inr (4, [.ref hr, .ref ht, .ref hx, .ref hl, .ref hi, .int z])), (hr, .inr (0, [.ref hb, .int n])), (hb, .inl (cA 0, 60, .inl f)), (ht, .inl (cA 0, 30, .inl tg)), (hx, .inl (cA 0, 30, .inl ss)), (hl, .inl (cA 0, 30, .inl ln))]) (ty := .int) S hK.1 ic_Card rfl 3 (by decide) ty_Card to_Card nm_Card (gw_lk S mw_194) 0 rfl rfl (by decide +kernel) rfl rfl (Nat.le_of_ble_eq_true rfl) rfl dc_Card_reset_12 ?_
  refine gw_aload_n S dc_Card_reset_15 rfl 0 rfl ?_
  refine gw_iconst (v := 0) S dc_Card_reset_16 (by decide) ?_
  refine gw_put (ws' := [(hc, .inr (5, [.ref ho, .int x, .int y, .int 3, .int 0, .int rn, .int sn, .int ac, .int ed, .int md, .int mn, .int mo, .int lo, .int up])), (ho, .inr (4, [.ref hr, .ref ht, .ref hx, .ref hl, .ref hi, .int z])), (hr, .inr (0, [.ref hb, .int n])), (hb, .inl (cA 0, 60, .inl f)), (ht, .inl (cA 0, 30, .inl tg)), (hx, .inl (cA 0, 30, .inl ss)), (hl, .inl (cA 0, 30, .inl ln))]) (ty := .int) S hK.1 ic_Card rfl 4 (by decide) ty_Card to_Card nm_Card (gw_lk S mw_195) 0 rfl rfl (by decide +kernel) rfl rfl (Nat.le_of_ble_eq_true rfl) rfl dc_Card_reset_17 ?_
  refine gw_aload_n S dc_Card_reset_20 rfl 0 rfl ?_
  refine gw_iconst (v := 0) S dc_Card_reset_21 (by decide) ?_
  refine gw_put (ws' := [(hc, .inr (5, [.ref ho, .int x, .int y, .int 3, .int 0, .int 0, .int sn, .int ac, .int ed, .int md, .int mn, .int mo, .int lo, .int up])), (ho, .inr (4, [.ref hr, .ref ht, .ref hx, .ref hl, .ref hi, .int z])), (hr, .inr (0, [.ref hb, .int n])), (hb, .inl (cA 0, 60, .inl f)), (ht, .inl (cA 0, 30, .inl tg)), (hx, .inl (cA 0, 30, .inl ss)), (hl, .inl (cA 0, 30, .inl ln))]) (ty := .int) S hK.1 ic_Card rfl 5 (by decide) ty_Card to_Card nm_Card (gw_lk S mw_197) 0 rfl rfl (by decide +kernel) rfl rfl (Nat.le_of_ble_eq_true rfl) rfl dc_Card_reset_22 ?_
  refine gw_aload_n S dc_Card_reset_25 rfl 0 rfl ?_
  refine gw_iconst (v := 0) S dc_Card_reset_26 (by decide) ?_
  refine gw_put (ws' := [(hc, .inr (5, [.ref ho, .int x, .int y, .int 3, .int 0, .int 0, .int 0, .int ac, .int ed, .int md, .int mn, .int mo, .int lo, .int up])), (ho, .inr (4, [.ref hr, .ref ht, .ref hx, .ref hl, .ref hi, .int z])), (hr, .inr (0, [.ref hb, .int n])), (hb, .inl (cA 0, 60, .inl f)), (ht, .inl (cA 0, 30, .inl tg)), (hx, .inl (cA 0, 30, .inl ss)), (hl, .inl (cA 0, 30, .inl ln))]) (ty := .boolean) S hK.1 ic_Card rfl 6 (by decide) ty_Card to_Card nm_Card (gw_lk S mw_199) 0 rfl rfl (by decide +kernel) rfl rfl (Nat.le_of_ble_eq_true rfl) rfl dc_Card_reset_27 ?_
  refine gw_aload_n S dc_Card_reset_30 rfl 0 rfl ?_
  refine gw_aload_n S dc_Card_reset_31 rfl 0 rfl ?_
  refine gw_get S hK.1 ic_Card rfl 0 (by decide) (gw_lk S mw_188) 0 rfl rfl dc_Card_reset_32 ?_
  refine gw_aload_n S dc_Card_reset_35 rfl 0 rfl ?_
  refine gw_get S hK.1 ic_Card rfl 0 (by decide) (gw_lk S mw_188) 0 rfl rfl dc_Card_reset_36 ?_
  refine gw_bipush (v := 90) S dc_Card_reset_39 (by decide) ?_
  refine gw_callVR (As := [.int 90]) (st := [.ref ho, .ref hc]) S hK (c_Tree_first l D cA ho hr ht hx hl hi z tg 90 (by assumption)) (cw_Card_40 S.2.2.2.2 rfl rfl ⟨Nat.le_of_ble_eq_true rfl, Nat.le_of_ble_eq_true rfl⟩) [1, 4] rfl (by decide) 0 rfl rfl rfl rfl rfl (Nat.le_of_ble_eq_true rfl) dc_Card_reset_41 ⟨Nat.le_of_ble_eq_true rfl, Nat.le_of_ble_eq_true rfl⟩ ?_
  rintro _ rfl
  refine gw_eq (ws' := [(hc, .inr (5, [.ref ho, .int x, .int y, .int 3, .int 0, .int 0, .int 0, .int ac, .int ed, .int md, .int mn, .int mo, .int lo, .int up])), (ho, .inr (4, [.ref hr, .ref ht, .ref hx, .ref hl, .ref hi, .int z])), (hr, .inr (0, [.ref hb, .int n])), (hb, .inl (cA 0, 60, .inl f)), (ht, .inl (cA 0, 30, .inl tg)), (hx, .inl (cA 0, 30, .inl ss)), (hl, .inl (cA 0, 30, .inl ln))]) (lv' := [(0, .ref hc), (1, .int x), (2, .int y)]) (st' := [.int (ix_v (ix_f tg 90 (Int32.toNatClampNeg z) 0)), .ref ho, .ref hc]) (pc' := 44) rfl rfl rfl rfl ?_
  refine gw_iconst (v := 0) S dc_Card_reset_44 (by decide) ?_
  refine gw_callVR (As := [.int (ix_v (ix_f tg 90 (Int32.toNatClampNeg z) 0)), .int 0]) (st := [.ref hc]) S hK (c_Tree_byteOf l D cA ho hr ht hx hl hi z hb n f ss ln (ix_v (ix_f tg 90 (Int32.toNatClampNeg z) 0)) 0 (by assumption) (by assumption)) (cw_Card_44 S.2.2.2.2 rfl rfl ⟨Nat.le_of_ble_eq_true rfl, Nat.le_of_ble_eq_true rfl⟩) [1, 2, 3, 5, 6] rfl (by decide) 0 rfl rfl rfl rfl rfl (Nat.le_of_ble_eq_true rfl) dc_Card_reset_45 ⟨Nat.le_of_ble_eq_true rfl, Nat.le_of_ble_eq_true rfl⟩ ?_
  rintro _ rfl
  refine gw_eq (ws' := [(hc, .inr (5, [.ref ho, .int x, .int y, .int 3, .int 0, .int 0, .int 0, .int ac, .int ed, .int md, .int mn, .int mo, .int lo, .int up])), (ho, .inr (4, [.ref hr, .ref ht, .ref hx, .ref hl, .ref hi, .int z])), (hr, .inr (0, [.ref hb, .int n])), (hb, .inl (cA 0, 60, .inl f)), (ht, .inl (cA 0, 30, .inl tg)), (hx, .inl (cA 0, 30, .inl ss)), (hl, .inl (cA 0, 30, .inl ln))]) (lv' := [(0, .ref hc), (1, .int x), (2, .int y)]) (st' := [.int (f_Tree_byteOf z n f ss ln (ix_v (ix_f tg 90 (Int32.toNatClampNeg z) 0)) 0), .ref hc]) (pc' := 48) rfl rfl rfl rfl ?_
  refine gw_put (ws' := [(hc, .inr (5, [.ref ho, .int x, .int y, .int 3, .int 0, .int 0, .int 0, .int (f_Tree_byteOf z n f ss ln (ix_v (ix_f tg 90 (Int32.toNatClampNeg z) 0)) 0), .int ed, .int md, .int mn, .int mo, .int lo, .int up])), (ho, .inr (4, [.ref hr, .ref ht, .ref hx, .ref hl, .ref hi, .int z])), (hr, .inr (0, [.ref hb, .int n])), (hb, .inl (cA 0, 60, .inl f)), (ht, .inl (cA 0, 30, .inl tg)), (hx, .inl (cA 0, 30, .inl ss)), (hl, .inl (cA 0, 30, .inl ln))]) (ty := .int) S hK.1 ic_Card rfl 7 (by decide) ty_Card to_Card nm_Card (gw_lk S mw_201) 0 rfl rfl (by decide +kernel) rfl rfl (Nat.le_of_ble_eq_true rfl) rfl dc_Card_reset_48 ?_
  refine gw_aload_n S dc_Card_reset_51 rfl 0 rfl ?_
  refine gw_aload_n S dc_Card_reset_52 rfl 0 rfl ?_
  refine gw_get S hK.1 ic_Card rfl 0 (by decide) (gw_lk S mw_188) 0 rfl rfl dc_Card_reset_53 ?_
  refine gw_aload_n S dc_Card_reset_56 rfl 0 rfl ?_
  refine gw_get S hK.1 ic_Card rfl 0 (by decide) (gw_lk S mw_188) 0 rfl rfl dc_Card_reset_57 ?_
  refine gw_sipush (v := 24356) S dc_Card_reset_60 (by decide) ?_
  refine gw_callVR (As := [.int 24356]) (st := [.ref ho, .ref hc]) S hK (c_Tree_first l D cA ho hr ht hx hl hi z tg 24356 (by assumption)) (cw_Card_40 S.2.2.2.2 rfl rfl ⟨Nat.le_of_ble_eq_true rfl, Nat.le_of_ble_eq_true rfl⟩) [1, 4] rfl (by decide) 0 rfl rfl rfl rfl rfl (Nat.le_of_ble_eq_true rfl) dc_Card_reset_63 ⟨Nat.le_of_ble_eq_true rfl, Nat.le_of_ble_eq_true rfl⟩ ?_
  rintro _ rfl
  refine gw_eq (ws' := [(hc, .inr (5, [.ref ho, .int x, .int y, .int 3, .int 0, .int 0, .int 0, .int (f_Tree_byteOf z n f ss ln (ix_v (ix_f tg 90 (Int32.toNatClampNeg z) 0)) 0), .int ed, .int md, .int mn, .int mo, .int lo, .int up])), (ho, .inr (4, [.ref hr, .ref ht, .ref hx, .ref hl, .ref hi, .int z])), (hr, .inr (0, [.ref hb, .int n])), (hb, .inl (cA 0, 60, .inl f)), (ht, .inl (cA 0, 30, .inl tg)), (hx, .inl (cA 0, 30, .inl ss)), (hl, .inl (cA 0, 30, .inl ln))]) (lv' := [(0, .ref hc), (1, .int x), (2, .int y)]) (st' := [.int (ix_v (ix_f tg 24356 (Int32.toNatClampNeg z) 0)), .ref ho, .ref hc]) (pc' := 66) rfl rfl rfl rfl ?_
  refine gw_callVR (As := [.int (ix_v (ix_f tg 24356 (Int32.toNatClampNeg z) 0))]) (st := [.ref hc]) S hK (c_Tree_pairOf l D cA ho hr ht hx hl hi z hb n f ss ln (ix_v (ix_f tg 24356 (Int32.toNatClampNeg z) 0)) (by assumption) (by assumption)) (cw_Card_51 S.2.2.2.2 rfl rfl ⟨Nat.le_of_ble_eq_true rfl, Nat.le_of_ble_eq_true rfl⟩) [1, 2, 3, 5, 6] rfl (by decide) 0 rfl rfl rfl rfl rfl (Nat.le_of_ble_eq_true rfl) dc_Card_reset_66 ⟨Nat.le_of_ble_eq_true rfl, Nat.le_of_ble_eq_true rfl⟩ ?_
  rintro _ rfl
  refine gw_eq (ws' := [(hc, .inr (5, [.ref ho, .int x, .int y, .int 3, .int 0, .int 0, .int 0, .int (f_Tree_byteOf z n f ss ln (ix_v (ix_f tg 90 (Int32.toNatClampNeg z) 0)) 0), .int ed, .int md, .int mn, .int mo, .int lo, .int up])), (ho, .inr (4, [.ref hr, .ref ht, .ref hx, .ref hl, .ref hi, .int z])), (hr, .inr (0, [.ref hb, .int n])), (hb, .inl (cA 0, 60, .inl f)), (ht, .inl (cA 0, 30, .inl tg)), (hx, .inl (cA 0, 30, .inl ss)), (hl, .inl (cA 0, 30, .inl ln))]) (lv' := [(0, .ref hc), (1, .int x), (2, .int y)]) (st' := [.int (f_Tree_pairOf z n f ss ln (ix_v (ix_f tg 24356 (Int32.toNatClampNeg z) 0))), .ref hc]) (pc' := 69) rfl rfl rfl rfl ?_
  refine gw_put (ws' := [(hc, .inr (5, [.ref ho, .int x, .int y, .int 3, .int 0, .int 0, .int 0, .int (f_Tree_byteOf z n f ss ln (ix_v (ix_f tg 90 (Int32.toNatClampNeg z) 0)) 0), .int (f_Tree_pairOf z n f ss ln (ix_v (ix_f tg 24356 (Int32.toNatClampNeg z) 0))), .int md, .int mn, .int mo, .int lo, .int up])), (ho, .inr (4, [.ref hr, .ref ht, .ref hx, .ref hl, .ref hi, .int z])), (hr, .inr (0, [.ref hb, .int n])), (hb, .inl (cA 0, 60, .inl f)), (ht, .inl (cA 0, 30, .inl tg)), (hx, .inl (cA 0, 30, .inl ss)), (hl, .inl (cA 0, 30, .inl ln))]) (ty := .int) S hK.1 ic_Card rfl 8 (by decide) ty_Card to_Card nm_Card (gw_lk S mw_204) 0 rfl rfl (by decide +kernel) rfl rfl (Nat.le_of_ble_eq_true rfl) rfl dc_Card_reset_69 ?_
  refine gw_aload_n S dc_Card_reset_72 rfl 0 rfl ?_
  refine gw_aload_n S dc_Card_reset_73 rfl 0 rfl ?_
  refine gw_get S hK.1 ic_Card rfl 0 (by decide) (gw_lk S mw_188) 0 rfl rfl dc_Card_reset_74 ?_
  refine gw_aload_n S dc_Card_reset_77 rfl 0 rfl ?_
  refine gw_get S hK.1 ic_Card rfl 0 (by decide) (gw_lk S mw_188) 0 rfl rfl dc_Card_reset_78 ?_
  refine gw_ldc (v := 40717) S (gw_lk S mw_396) dc_Card_reset_81 ?_
  refine gw_callVR (As := [.int 40717]) (st := [.ref ho, .ref hc]) S hK (c_Tree_first l D cA ho hr ht hx hl hi z tg 40717 (by assumption)) (cw_Card_40 S.2.2.2.2 rfl rfl ⟨Nat.le_of_ble_eq_true rfl, Nat.le_of_ble_eq_true rfl⟩) [1, 4] rfl (by decide) 0 rfl rfl rfl rfl rfl (Nat.le_of_ble_eq_true rfl) dc_Card_reset_83 ⟨Nat.le_of_ble_eq_true rfl, Nat.le_of_ble_eq_true rfl⟩ ?_
  rintro _ rfl
  refine gw_eq (ws' := [(hc, .inr (5, [.ref ho, .int x, .int y, .int 3, .int 0, .int 0, .int 0, .int (f_Tree_byteOf z n f ss ln (ix_v (ix_f tg 90 (Int32.toNatClampNeg z) 0)) 0), .int (f_Tree_pairOf z n f ss ln (ix_v (ix_f tg 24356 (Int32.toNatClampNeg z) 0))), .int md, .int mn, .int mo, .int lo, .int up])), (ho, .inr (4, [.ref hr, .ref ht, .ref hx, .ref hl, .ref hi, .int z])), (hr, .inr (0, [.ref hb, .int n])), (hb, .inl (cA 0, 60, .inl f)), (ht, .inl (cA 0, 30, .inl tg)), (hx, .inl (cA 0, 30, .inl ss)), (hl, .inl (cA 0, 30, .inl ln))]) (lv' := [(0, .ref hc), (1, .int x), (2, .int y)]) (st' := [.int (ix_v (ix_f tg 40717 (Int32.toNatClampNeg z) 0)), .ref ho, .ref hc]) (pc' := 86) rfl rfl rfl rfl ?_
  refine gw_callVR (As := [.int (ix_v (ix_f tg 40717 (Int32.toNatClampNeg z) 0))]) (st := [.ref hc]) S hK (c_Tree_pairOf l D cA ho hr ht hx hl hi z hb n f ss ln (ix_v (ix_f tg 40717 (Int32.toNatClampNeg z) 0)) (by assumption) (by assumption)) (cw_Card_51 S.2.2.2.2 rfl rfl ⟨Nat.le_of_ble_eq_true rfl, Nat.le_of_ble_eq_true rfl⟩) [1, 2, 3, 5, 6] rfl (by decide) 0 rfl rfl rfl rfl rfl (Nat.le_of_ble_eq_true rfl) dc_Card_reset_86 ⟨Nat.le_of_ble_eq_true rfl, Nat.le_of_ble_eq_true rfl⟩ ?_
  rintro _ rfl
  refine gw_eq (ws' := [(hc, .inr (5, [.ref ho, .int x, .int y, .int 3, .int 0, .int 0, .int 0, .int (f_Tree_byteOf z n f ss ln (ix_v (ix_f tg 90 (Int32.toNatClampNeg z) 0)) 0), .int (f_Tree_pairOf z n f ss ln (ix_v (ix_f tg 24356 (Int32.toNatClampNeg z) 0))), .int md, .int mn, .int mo, .int lo, .int up])), (ho, .inr (4, [.ref hr, .ref ht, .ref hx, .ref hl, .ref hi, .int z])), (hr, .inr (0, [.ref hb, .int n])), (hb, .inl (cA 0, 60, .inl f)), (ht, .inl (cA 0, 30, .inl tg)), (hx, .inl (cA 0, 30, .inl ss)), (hl, .inl (cA 0, 30, .inl ln))]) (lv' := [(0, .ref hc), (1, .int x), (2, .int y)]) (st' := [.int (f_Tree_pairOf z n f ss ln (ix_v (ix_f tg 40717 (Int32.toNatClampNeg z) 0))), .ref hc]) (pc' := 89) rfl rfl rfl rfl ?_
  refine gw_put (ws' := [(hc, .inr (5, [.ref ho, .int x, .int y, .int 3, .int 0, .int 0, .int 0, .int (f_Tree_byteOf z n f ss ln (ix_v (ix_f tg 90 (Int32.toNatClampNeg z) 0)) 0), .int (f_Tree_pairOf z n f ss ln (ix_v (ix_f tg 24356 (Int32.toNatClampNeg z) 0))), .int (f_Tree_pairOf z n f ss ln (ix_v (ix_f tg 40717 (Int32.toNatClampNeg z) 0))), .int mn, .int mo, .int lo, .int up])), (ho, .inr (4, [.ref hr, .ref ht, .ref hx, .ref hl, .ref hi, .int z])), (hr, .inr (0, [.ref hb, .int n])), (hb, .inl (cA 0, 60, .inl f)), (ht, .inl (cA 0, 30, .inl tg)), (hx, .inl (cA 0, 30, .inl ss)), (hl, .inl (cA 0, 30, .inl ln))]) (ty := .int) S hK.1 ic_Card rfl 9 (by decide) ty_Card to_Card nm_Card (gw_lk S mw_206) 0 rfl rfl (by decide +kernel) rfl rfl (Nat.le_of_ble_eq_true rfl) rfl dc_Card_reset_89 ?_
  refine gw_aload_n S dc_Card_reset_92 rfl 0 rfl ?_
  refine gw_aload_n S dc_Card_reset_93 rfl 0 rfl ?_
  refine gw_get S hK.1 ic_Card rfl 0 (by decide) (gw_lk S mw_188) 0 rfl rfl dc_Card_reset_94 ?_
  refine gw_aload_n S dc_Card_reset_97 rfl 0 rfl ?_
  refine gw_get S hK.1 ic_Card rfl 0 (by decide) (gw_lk S mw_188) 0 rfl rfl dc_Card_reset_98 ?_
  refine gw_ldc (v := 40718) S (gw_lk S mw_397) dc_Card_reset_101 ?_
  refine gw_callVR (As := [.int 40718]) (st := [.ref ho, .ref hc]) S hK (c_Tree_first l D cA ho hr ht hx hl hi z tg 40718 (by assumption)) (cw_Card_40 S.2.2.2.2 rfl rfl ⟨Nat.le_of_ble_eq_true rfl, Nat.le_of_ble_eq_true rfl⟩) [1, 4] rfl (by decide) 0 rfl rfl rfl rfl rfl (Nat.le_of_ble_eq_true rfl) dc_Card_reset_103 ⟨Nat.le_of_ble_eq_true rfl, Nat.le_of_ble_eq_true rfl⟩ ?_
  rintro _ rfl
  refine gw_eq (ws' := [(hc, .inr (5, [.ref ho, .int x, .int y, .int 3, .int 0, .int 0, .int 0, .int (f_Tree_byteOf z n f ss ln (ix_v (ix_f tg 90 (Int32.toNatClampNeg z) 0)) 0), .int (f_Tree_pairOf z n f ss ln (ix_v (ix_f tg 24356 (Int32.toNatClampNeg z) 0))), .int (f_Tree_pairOf z n f ss ln (ix_v (ix_f tg 40717 (Int32.toNatClampNeg z) 0))), .int mn, .int mo, .int lo, .int up])), (ho, .inr (4, [.ref hr, .ref ht, .ref hx, .ref hl, .ref hi, .int z])), (hr, .inr (0, [.ref hb, .int n])), (hb, .inl (cA 0, 60, .inl f)), (ht, .inl (cA 0, 30, .inl tg)), (hx, .inl (cA 0, 30, .inl ss)), (hl, .inl (cA 0, 30, .inl ln))]) (lv' := [(0, .ref hc), (1, .int x), (2, .int y)]) (st' := [.int (ix_v (ix_f tg 40718 (Int32.toNatClampNeg z) 0)), .ref ho, .ref hc]) (pc' := 106) rfl rfl rfl rfl ?_
  refine gw_callVR (As := [.int (ix_v (ix_f tg 40718 (Int32.toNatClampNeg z) 0))]) (st := [.ref hc]) S hK (c_Tree_pairOf l D cA ho hr ht hx hl hi z hb n f ss ln (ix_v (ix_f tg 40718 (Int32.toNatClampNeg z) 0)) (by assumption) (by assumption)) (cw_Card_51 S.2.2.2.2 rfl rfl ⟨Nat.le_of_ble_eq_true rfl, Nat.le_of_ble_eq_true rfl⟩) [1, 2, 3, 5, 6] rfl (by decide) 0 rfl rfl rfl rfl rfl (Nat.le_of_ble_eq_true rfl) dc_Card_reset_106 ⟨Nat.le_of_ble_eq_true rfl, Nat.le_of_ble_eq_true rfl⟩ ?_
  rintro _ rfl
  refine gw_eq (ws' := [(hc, .inr (5, [.ref ho, .int x, .int y, .int 3, .int 0, .int 0, .int 0, .int (f_Tree_byteOf z n f ss ln (ix_v (ix_f tg 90 (Int32.toNatClampNeg z) 0)) 0), .int (f_Tree_pairOf z n f ss ln (ix_v (ix_f tg 24356 (Int32.toNatClampNeg z) 0))), .int (f_Tree_pairOf z n f ss ln (ix_v (ix_f tg 40717 (Int32.toNatClampNeg z) 0))), .int mn, .int mo, .int lo, .int up])), (ho, .inr (4, [.ref hr, .ref ht, .ref hx, .ref hl, .ref hi, .int z])), (hr, .inr (0, [.ref hb, .int n])), (hb, .inl (cA 0, 60, .inl f)), (ht, .inl (cA 0, 30, .inl tg)), (hx, .inl (cA 0, 30, .inl ss)), (hl, .inl (cA 0, 30, .inl ln))]) (lv' := [(0, .ref hc), (1, .int x), (2, .int y)]) (st' := [.int (f_Tree_pairOf z n f ss ln (ix_v (ix_f tg 40718 (Int32.toNatClampNeg z) 0))), .ref hc]) (pc' := 109) rfl rfl rfl rfl ?_
  refine gw_put (ws' := [(hc, .inr (5, [.ref ho, .int x, .int y, .int 3, .int 0, .int 0, .int 0, .int (f_Tree_byteOf z n f ss ln (ix_v (ix_f tg 90 (Int32.toNatClampNeg z) 0)) 0), .int (f_Tree_pairOf z n f ss ln (ix_v (ix_f tg 24356 (Int32.toNatClampNeg z) 0))), .int (f_Tree_pairOf z n f ss ln (ix_v (ix_f tg 40717 (Int32.toNatClampNeg z) 0))), .int (f_Tree_pairOf z n f ss ln (ix_v (ix_f tg 40718 (Int32.toNatClampNeg z) 0))), .int mo, .int lo, .int up])), (ho, .inr (4, [.ref hr, .ref ht, .ref hx, .ref hl, .ref hi, .int z])), (hr, .inr (0, [.ref hb, .int n])), (hb, .inl (cA 0, 60, .inl f)), (ht, .inl (cA 0, 30, .inl tg)), (hx, .inl (cA 0, 30, .inl ss)), (hl, .inl (cA 0, 30, .inl ln))]) (ty := .int) S hK.1 ic_Card rfl 10 (by decide) ty_Card to_Card nm_Card (gw_lk S mw_208) 0 rfl rfl (by decide +kernel) rfl rfl (Nat.le_of_ble_eq_true rfl) rfl dc_Card_reset_109 ?_
  refine gw_aload_n S dc_Card_reset_112 rfl 0 rfl ?_
  refine gw_aload_n S dc_Card_reset_113 rfl 0 rfl ?_
  refine gw_get S hK.1 ic_Card rfl 0 (by decide) (gw_lk S mw_188) 0 rfl rfl dc_Card_reset_114 ?_
  refine gw_aload_n S dc_Card_reset_117 rfl 0 rfl ?_
  refine gw_get S hK.1 ic_Card rfl 0 (by decide) (gw_lk S mw_188) 0 rfl rfl dc_Card_reset_118 ?_
  refine gw_ldc (v := 40719) S (gw_lk S mw_398) dc_Card_reset_121 ?_
  refine gw_callVR (As := [.int 40719]) (st := [.ref ho, .ref hc]) S hK (c_Tree_first l D cA ho hr ht hx hl hi z tg 40719 (by assumption)) (cw_Card_40 S.2.2.2.2 rfl rfl ⟨Nat.le_of_ble_eq_true rfl, Nat.le_of_ble_eq_true rfl⟩) [1, 4] rfl (by decide) 0 rfl rfl rfl rfl rfl (Nat.le_of_ble_eq_true rfl) dc_Card_reset_123 ⟨Nat.le_of_ble_eq_true rfl, Nat.le_of_ble_eq_true rfl⟩ ?_
  rintro _ rfl
  refine gw_eq (ws' := [(hc, .inr (5, [.ref ho, .int x, .int y, .int 3, .int 0, .int 0, .int 0, .int (f_Tree_byteOf z n f ss ln (ix_v (ix_f tg 90 (Int32.toNatClampNeg z) 0)) 0), .int (f_Tree_pairOf z n f ss ln (ix_v (ix_f tg 24356 (Int32.toNatClampNeg z) 0))), .int (f_Tree_pairOf z n f ss ln (ix_v (ix_f tg 40717 (Int32.toNatClampNeg z) 0))), .int (f_Tree_pairOf z n f ss ln (ix_v (ix_f tg 40718 (Int32.toNatClampNeg z) 0))), .int mo, .int lo, .int up])), (ho, .inr (4, [.ref hr, .ref ht, .ref hx, .ref hl, .ref hi, .int z])), (hr, .inr (0, [.ref hb, .int n])), (hb, .inl (cA 0, 60, .inl f)), (ht, .inl (cA 0, 30, .inl tg)), (hx, .inl (cA 0, 30, .inl ss)), (hl, .inl (cA 0, 30, .inl ln))]) (lv' := [(0, .ref hc), (1, .int x), (2, .int y)]) (st' := [.int (ix_v (ix_f tg 40719 (Int32.toNatClampNeg z) 0)), .ref ho, .ref hc]) (pc' := 126) rfl rfl rfl rfl ?_
  refine gw_callVR (As := [.int (ix_v (ix_f tg 40719 (Int32.toNatClampNeg z) 0))]) (st := [.ref hc]) S hK (c_Tree_pairOf l D cA ho hr ht hx hl hi z hb n f ss ln (ix_v (ix_f tg 40719 (Int32.toNatClampNeg z) 0)) (by assumption) (by assumption)) (cw_Card_51 S.2.2.2.2 rfl rfl ⟨Nat.le_of_ble_eq_true rfl, Nat.le_of_ble_eq_true rfl⟩) [1, 2, 3, 5, 6] rfl (by decide) 0 rfl rfl rfl rfl rfl (Nat.le_of_ble_eq_true rfl) dc_Card_reset_126 ⟨Nat.le_of_ble_eq_true rfl, Nat.le_of_ble_eq_true rfl⟩ ?_
  rintro _ rfl
  refine gw_eq (ws' := [(hc, .inr (5, [.ref ho, .int x, .int y, .int 3, .int 0, .int 0, .int 0, .int (f_Tree_byteOf z n f ss ln (ix_v (ix_f tg 90 (Int32.toNatClampNeg z) 0)) 0), .int (f_Tree_pairOf z n f ss ln (ix_v (ix_f tg 24356 (Int32.toNatClampNeg z) 0))), .int (f_Tree_pairOf z n f ss ln (ix_v (ix_f tg 40717 (Int32.toNatClampNeg z) 0))), .int (f_Tree_pairOf z n f ss ln (ix_v (ix_f tg 40718 (Int32.toNatClampNeg z) 0))), .int mo, .int lo, .int up])), (ho, .inr (4, [.ref hr, .ref ht, .ref hx, .ref hl, .ref hi, .int z])), (hr, .inr (0, [.ref hb, .int n])), (hb, .inl (cA 0, 60, .inl f)), (ht, .inl (cA 0, 30, .inl tg)), (hx, .inl (cA 0, 30, .inl ss)), (hl, .inl (cA 0, 30, .inl ln))]) (lv' := [(0, .ref hc), (1, .int x), (2, .int y)]) (st' := [.int (f_Tree_pairOf z n f ss ln (ix_v (ix_f tg 40719 (Int32.toNatClampNeg z) 0))), .ref hc]) (pc' := 129) rfl rfl rfl rfl ?_
  refine gw_put (ws' := [(hc, .inr (5, [.ref ho, .int x, .int y, .int 3, .int 0, .int 0, .int 0, .int (f_Tree_byteOf z n f ss ln (ix_v (ix_f tg 90 (Int32.toNatClampNeg z) 0)) 0), .int (f_Tree_pairOf z n f ss ln (ix_v (ix_f tg 24356 (Int32.toNatClampNeg z) 0))), .int (f_Tree_pairOf z n f ss ln (ix_v (ix_f tg 40717 (Int32.toNatClampNeg z) 0))), .int (f_Tree_pairOf z n f ss ln (ix_v (ix_f tg 40718 (Int32.toNatClampNeg z) 0))), .int (f_Tree_pairOf z n f ss ln (ix_v (ix_f tg 40719 (Int32.toNatClampNeg z) 0))), .int lo, .int up])), (ho, .inr (4, [.ref hr, .ref ht, .ref hx, .ref hl, .ref hi, .int z])), (hr, .inr (0, [.ref hb, .int n])), (hb, .inl (cA 0, 60, .inl f)), (ht, .inl (cA 0, 30, .inl tg)), (hx, .inl (cA 0, 30, .inl ss)), (hl, .inl (cA 0, 30, .inl ln))]) (ty := .int) S hK.1 ic_Card rfl 11 (by decide) ty_Card to_Card nm_Card (gw_lk S mw_210) 0 rfl rfl (by decide +kernel) rfl rfl (Nat.le_of_ble_eq_true rfl) rfl dc_Card_reset_129 ?_
  refine gw_aload_n S dc_Card_reset_132 rfl 0 rfl ?_
  refine gw_aload_n S dc_Card_reset_133 rfl 0 rfl ?_
  refine gw_get S hK.1 ic_Card rfl 0 (by decide) (gw_lk S mw_188) 0 rfl rfl dc_Card_reset_134 ?_
  refine gw_aload_n S dc_Card_reset_137 rfl 0 rfl ?_
  refine gw_get S hK.1 ic_Card rfl 0 (by decide) (gw_lk S mw_188) 0 rfl rfl dc_Card_reset_138 ?_
  refine gw_ldc (v := 40724) S (gw_lk S mw_399) dc_Card_reset_141 ?_
  refine gw_callVR (As := [.int 40724]) (st := [.ref ho, .ref hc]) S hK (c_Tree_first l D cA ho hr ht hx hl hi z tg 40724 (by assumption)) (cw_Card_40 S.2.2.2.2 rfl rfl ⟨Nat.le_of_ble_eq_true rfl, Nat.le_of_ble_eq_true rfl⟩) [1, 4] rfl (by decide) 0 rfl rfl rfl rfl rfl (Nat.le_of_ble_eq_true rfl) dc_Card_reset_143 ⟨Nat.le_of_ble_eq_true rfl, Nat.le_of_ble_eq_true rfl⟩ ?_
  rintro _ rfl
  refine gw_eq (ws' := [(hc, .inr (5, [.ref ho, .int x, .int y, .int 3, .int 0, .int 0, .int 0, .int (f_Tree_byteOf z n f ss ln (ix_v (ix_f tg 90 (Int32.toNatClampNeg z) 0)) 0), .int (f_Tree_pairOf z n f ss ln (ix_v (ix_f tg 24356 (Int32.toNatClampNeg z) 0))), .int (f_Tree_pairOf z n f ss ln (ix_v (ix_f tg 40717 (Int32.toNatClampNeg z) 0))), .int (f_Tree_pairOf z n f ss ln (ix_v (ix_f tg 40718 (Int32.toNatClampNeg z) 0))), .int (f_Tree_pairOf z n f ss ln (ix_v (ix_f tg 40719 (Int32.toNatClampNeg z) 0))), .int lo, .int up])), (ho, .inr (4, [.ref hr, .ref ht, .ref hx, .ref hl, .ref hi, .int z])), (hr, .inr (0, [.ref hb, .int n])), (hb, .inl (cA 0, 60, .inl f)), (ht, .inl (cA 0, 30, .inl tg)), (hx, .inl (cA 0, 30, .inl ss)), (hl, .inl (cA 0, 30, .inl ln))]) (lv' := [(0, .ref hc), (1, .int x), (2, .int y)]) (st' := [.int (ix_v (ix_f tg 40724 (Int32.toNatClampNeg z) 0)), .ref ho, .ref hc]) (pc' := 146) rfl rfl rfl rfl ?_
  refine gw_iconst (v := 0) S dc_Card_reset_146 (by decide) ?_
  refine gw_callVR (As := [.int (ix_v (ix_f tg 40724 (Int32.toNatClampNeg z) 0)), .int 0]) (st := [.ref hc]) S hK (c_Tree_byteOf l D cA ho hr ht hx hl hi z hb n f ss ln (ix_v (ix_f tg 40724 (Int32.toNatClampNeg z) 0)) 0 (by assumption) (by assumption)) (cw_Card_44 S.2.2.2.2 rfl rfl ⟨Nat.le_of_ble_eq_true rfl, Nat.le_of_ble_eq_true rfl⟩) [1, 2, 3, 5, 6] rfl (by decide) 0 rfl rfl rfl rfl rfl (Nat.le_of_ble_eq_true rfl) dc_Card_reset_147 ⟨Nat.le_of_ble_eq_true rfl, Nat.le_of_ble_eq_true rfl⟩ ?_
  rintro _ rfl
  refine gw_eq (ws' := [(hc, .inr (5, [.ref ho, .int x, .int y, .int 3, .int 0, .int 0, .int 0, .int (f_Tree_byteOf z n f ss ln (ix_v (ix_f tg 90 (Int32.toNatClampNeg z) 0)) 0), .int (f_Tree_pairOf z n f ss ln (ix_v (ix_f tg 24356 (Int32.toNatClampNeg z) 0))), .int (f_Tree_pairOf z n f ss ln (ix_v (ix_f tg 40717 (Int32.toNatClampNeg z) 0))), .int (f_Tree_pairOf z n f ss ln (ix_v (ix_f tg 40718 (Int32.toNatClampNeg z) 0))), .int (f_Tree_pairOf z n f ss ln (ix_v (ix_f tg 40719 (Int32.toNatClampNeg z) 0))), .int lo, .int up])), (ho, .inr (4, [.ref hr, .ref ht, .ref hx, .ref hl, .ref hi, .int z])), (hr, .inr (0, [.ref hb, .int n])), (hb, .inl (cA 0, 60, .inl f)), (ht, .inl (cA 0, 30, .inl tg)), (hx, .inl (cA 0, 30, .inl ss)), (hl, .inl (cA 0, 30, .inl ln))]) (lv' := [(0, .ref hc), (1, .int x), (2, .int y)]) (st' := [.int (f_Tree_byteOf z n f ss ln (ix_v (ix_f tg 40724 (Int32.toNatClampNeg z) 0)) 0), .ref hc]) (pc' := 150) rfl rfl rfl rfl ?_
  refine gw_put (ws' := [(hc, .inr (5, [.ref ho, .int x, .int y, .int 3, .int 0, .int 0, .int 0, .int (f_Tree_byteOf z n f ss ln (ix_v (ix_f tg 90 (Int32.toNatClampNeg z) 0)) 0), .int (f_Tree_pairOf z n f ss ln (ix_v (ix_f tg 24356 (Int32.toNatClampNeg z) 0))), .int (f_Tree_pairOf z n f ss ln (ix_v (ix_f tg 40717 (Int32.toNatClampNeg z) 0))), .int (f_Tree_pairOf z n f ss ln (ix_v (ix_f tg 40718 (Int32.toNatClampNeg z) 0))), .int (f_Tree_pairOf z n f ss ln (ix_v (ix_f tg 40719 (Int32.toNatClampNeg z) 0))), .int (f_Tree_byteOf z n f ss ln (ix_v (ix_f tg 40724 (Int32.toNatClampNeg z) 0)) 0), .int up])), (ho, .inr (4, [.ref hr, .ref ht, .ref hx, .ref hl, .ref hi, .int z])), (hr, .inr (0, [.ref hb, .int n])), (hb, .inl (cA 0, 60, .inl f)), (ht, .inl (cA 0, 30, .inl tg)), (hx, .inl (cA 0, 30, .inl ss)), (hl, .inl (cA 0, 30, .inl ln))]) (ty := .int) S hK.1 ic_Card rfl 12 (by decide) ty_Card to_Card nm_Card (gw_lk S mw_212) 0 rfl rfl (by decide +kernel) rfl rfl (Nat.le_of_ble_eq_true rfl) rfl dc_Card_reset_150 ?_
  refine gw_aload_n S dc_Card_reset_153 rfl 0 rfl ?_
  refine gw_aload_n S dc_Card_reset_154 rfl 0 rfl ?_
  refine gw_get S hK.1 ic_Card rfl 0 (by decide) (gw_lk S mw_188) 0 rfl rfl dc_Card_reset_155 ?_
  refine gw_aload_n S dc_Card_reset_158 rfl 0 rfl ?_
  refine gw_get S hK.1 ic_Card rfl 0 (by decide) (gw_lk S mw_188) 0 rfl rfl dc_Card_reset_159 ?_
  refine gw_ldc (v := 40739) S (gw_lk S mw_400) dc_Card_reset_162 ?_
  refine gw_callVR (As := [.int 40739]) (st := [.ref ho, .ref hc]) S hK (c_Tree_first l D cA ho hr ht hx hl hi z tg 40739 (by assumption)) (cw_Card_40 S.2.2.2.2 rfl rfl ⟨Nat.le_of_ble_eq_true rfl, Nat.le_of_ble_eq_true rfl⟩) [1, 4] rfl (by decide) 0 rfl rfl rfl rfl rfl (Nat.le_of_ble_eq_true rfl) dc_Card_reset_164 ⟨Nat.le_of_ble_eq_true rfl, Nat.le_of_ble_eq_true rfl⟩ ?_
  rintro _ rfl
  refine gw_eq (ws' := [(hc, .inr (5, [.ref ho, .int x, .int y, .int 3, .int 0, .int 0, .int 0, .int (f_Tree_byteOf z n f ss ln (ix_v (ix_f tg 90 (Int32.toNatClampNeg z) 0)) 0), .int (f_Tree_pairOf z n f ss ln (ix_v (ix_f tg 24356 (Int32.toNatClampNeg z) 0))), .int (f_Tree_pairOf z n f ss ln (ix_v (ix_f tg 40717 (Int32.toNatClampNeg z) 0))), .int (f_Tree_pairOf z n f ss ln (ix_v (ix_f tg 40718 (Int32.toNatClampNeg z) 0))), .int (f_Tree_pairOf z n f ss ln (ix_v (ix_f tg 40719 (Int32.toNatClampNeg z) 0))), .int (f_Tree_byteOf z n f ss ln (ix_v (ix_f tg 40724 (Int32.toNatClampNeg z) 0)) 0), .int up])), (ho, .inr (4, [.ref hr, .ref ht, .ref hx, .ref hl, .ref hi, .int z])), (hr, .inr (0, [.ref hb, .int n])), (hb, .inl (cA 0, 60, .inl f)), (ht, .inl (cA 0, 30, .inl tg)), (hx, .inl (cA 0, 30, .inl ss)), (hl, .inl (cA 0, 30, .inl ln))]) (lv' := [(0, .ref hc), (1, .int x), (2, .int y)]) (st' := [.int (ix_v (ix_f tg 40739 (Int32.toNatClampNeg z) 0)), .ref ho, .ref hc]) (pc' := 167) rfl rfl rfl rfl ?_
  refine gw_iconst (v := 0) S dc_Card_reset_167 (by decide) ?_
  refine gw_callVR (As := [.int (ix_v (ix_f tg 40739 (Int32.toNatClampNeg z) 0)), .int 0]) (st := [.ref hc]) S hK (c_Tree_byteOf l D cA ho hr ht hx hl hi z hb n f ss ln (ix_v (ix_f tg 40739 (Int32.toNatClampNeg z) 0)) 0 (by assumption) (by assumption)) (cw_Card_44 S.2.2.2.2 rfl rfl ⟨Nat.le_of_ble_eq_true rfl, Nat.le_of_ble_eq_true rfl⟩) [1, 2, 3, 5, 6] rfl (by decide) 0 rfl rfl rfl rfl rfl (Nat.le_of_ble_eq_true rfl) dc_Card_reset_168 ⟨Nat.le_of_ble_eq_true rfl, Nat.le_of_ble_eq_true rfl⟩ ?_
  rintro _ rfl
  refine gw_eq (ws' := [(hc, .inr (5, [.ref ho, .int x, .int y, .int 3, .int 0, .int 0, .int 0, .int (f_Tree_byteOf z n f ss ln (ix_v (ix_f tg 90 (Int32.toNatClampNeg z) 0)) 0), .int (f_Tree_pairOf z n f ss ln (ix_v (ix_f tg 24356 (Int32.toNatClampNeg z) 0))), .int (f_Tree_pairOf z n f ss ln (ix_v (ix_f tg 40717 (Int32.toNatClampNeg z) 0))), .int (f_Tree_pairOf z n f ss ln (ix_v (ix_f tg 40718 (Int32.toNatClampNeg z) 0))), .int (f_Tree_pairOf z n f ss ln (ix_v (ix_f tg 40719 (Int32.toNatClampNeg z) 0))), .int (f_Tree_byteOf z n f ss ln (ix_v (ix_f tg 40724 (Int32.toNatClampNeg z) 0)) 0), .int up])), (ho, .inr (4, [.ref hr, .ref ht, .ref hx, .ref hl, .ref hi, .int z])), (hr, .inr (0, [.ref hb, .int n])), (hb, .inl (cA 0, 60, .inl f)), (ht, .inl (cA 0, 30, .inl tg)), (hx, .inl (cA 0, 30, .inl ss)), (hl, .inl (cA 0, 30, .inl ln))]) (lv' := [(0, .ref hc), (1, .int x), (2, .int y)]) (st' := [.int (f_Tree_byteOf z n f ss ln (ix_v (ix_f tg 40739 (Int32.toNatClampNeg z) 0)) 0), .ref hc]) (pc' := 171) rfl rfl rfl rfl ?_
  refine gw_put (ws' := [(hc, .inr (5, [.ref ho, .int x, .int y, .int 3, .int 0, .int 0, .int 0, .int (f_Tree_byteOf z n f ss ln (ix_v (ix_f tg 90 (Int32.toNatClampNeg z) 0)) 0), .int (f_Tree_pairOf z n f ss ln (ix_v (ix_f tg 24356 (Int32.toNatClampNeg z) 0))), .int (f_Tree_pairOf z n f ss ln (ix_v (ix_f tg 40717 (Int32.toNatClampNeg z) 0))), .int (f_Tree_pairOf z n f ss ln (ix_v (ix_f tg 40718 (Int32.toNatClampNeg z) 0))), .int (f_Tree_pairOf z n f ss ln (ix_v (ix_f tg 40719 (Int32.toNatClampNeg z) 0))), .int (f_Tree_byteOf z n f ss ln (ix_v (ix_f tg 40724 (Int32.toNatClampNeg z) 0)) 0), .int (f_Tree_byteOf z n f ss ln (ix_v (ix_f tg 40739 (Int32.toNatClampNeg z) 0)) 0)])), (ho, .inr (4, [.ref hr, .ref ht, .ref hx, .ref hl, .ref hi, .int z])), (hr, .inr (0, [.ref hb, .int n])), (hb, .inl (cA 0, 60, .inl f)), (ht, .inl (cA 0, 30, .inl tg)), (hx, .inl (cA 0, 30, .inl ss)), (hl, .inl (cA 0, 30, .inl ln))]) (ty := .int) S hK.1 ic_Card rfl 13 (by decide) ty_Card to_Card nm_Card (gw_lk S mw_214) 0 rfl rfl (by decide +kernel) rfl rfl (Nat.le_of_ble_eq_true rfl) rfl dc_Card_reset_171 ?_
  exact gw_vret (w := [(hc, .inr (5, [.ref ho, .int x, .int y, .int 3, .int 0, .int 0, .int 0, .int (f_Tree_byteOf z n f ss ln (ix_v (ix_f tg 90 (Int32.toNatClampNeg z) 0)) 0), .int (f_Tree_pairOf z n f ss ln (ix_v (ix_f tg 24356 (Int32.toNatClampNeg z) 0))), .int (f_Tree_pairOf z n f ss ln (ix_v (ix_f tg 40717 (Int32.toNatClampNeg z) 0))), .int (f_Tree_pairOf z n f ss ln (ix_v (ix_f tg 40718 (Int32.toNatClampNeg z) 0))), .int (f_Tree_pairOf z n f ss ln (ix_v (ix_f tg 40719 (Int32.toNatClampNeg z) 0))), .int (f_Tree_byteOf z n f ss ln (ix_v (ix_f tg 40724 (Int32.toNatClampNeg z) 0)) 0), .int (f_Tree_byteOf z n f ss ln (ix_v (ix_f tg 40739 (Int32.toNatClampNeg z) 0)) 0)])), (ho, .inr (4, [.ref hr, .ref ht, .ref hx, .ref hl, .ref hi, .int z])), (hr, .inr (0, [.ref hb, .int n])), (hb, .inl (cA 0, 60, .inl f)), (ht, .inl (cA 0, 30, .inl tg)), (hx, .inl (cA 0, 30, .inl ss)), (hl, .inl (cA 0, 30, .inl ln))]) S g_r g_k  [0, 1, 2, 3, 4, 5, 6] rfl (by decide) ⟨(by simp only [f_Card_reset_accountNumber, f_Card_reset_endDay, f_Card_reset_maskDefault, f_Card_reset_maskDenial, f_Card_reset_maskOnline, f_Card_reset_lower, f_Card_reset_upper]), (by simp only [f_Card_reset_accountNumber, f_Card_reset_endDay, f_Card_reset_maskDefault, f_Card_reset_maskDenial, f_Card_reset_maskOnline, f_Card_reset_lower, f_Card_reset_upper])⟩ dc_Card_reset_174
