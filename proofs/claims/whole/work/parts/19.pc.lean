set_option maxRecDepth 100000 in
set_option maxHeartbeats 4000000 in
theorem c_Tree_read (l : Launch) (D : va_G) (cA : Nat → ClassId) (sz : Nat) (h : Nat) (hr : Nat) (ht : Nat) (hs : Nat) (hl : Nat) (hi : Nat) (z : Int32) (hb : Nat) (n : Int32) (f : Nat → Int32) (tg : Nat → Int32) (ss : Nat → Int32) (ln : Nat → Int32) (nn : Nat → Int32) (h2 : Nat) (hb2 : Nat) (n2 : Int32) (g : Nat → Int32) (hN : rw_ok n2 60) : ct_M l D cA yn_Tree_read cd_Tree_read 8 0 0 sz [.ref h, .ref h2] [(h, .inr (4, [.ref hr, .ref ht, .ref hs, .ref hl, .ref hi, .int z])), (hr, .inr (0, [.ref hb, .int n])), (hb, .inl (cA 0, 60, .inl f)), (ht, .inl (cA 0, 30, .inl tg)), (hs, .inl (cA 0, 30, .inl ss)), (hl, .inl (cA 0, 30, .inl ln)), (hi, .inl (cA 0, 30, .inl nn)), (h2, .inr (0, [.ref hb2, .int n2])), (hb2, .inl (cA 0, 60, .inl g))] (fun v_ w_ => ∃ (F9 : Int32 × tt_T), F9 = ct_F n2 (cp_f f g (Int32.toNatClampNeg n2)) 4 0 n2 (-1) (tg, ss, ln, nn, 0) ∧ v_ = some (.int F9.1) ∧ w_ = [(h, .inr (4, [.ref hr, .ref ht, .ref hs, .ref hl, .ref hi, .int F9.2.2.2.2.2])), (hr, .inr (0, [.ref hb, .int n2])), (hb, .inl (cA 0, 60, .inl (cp_f f g (Int32.toNatClampNeg n2)))), (ht, .inl (cA 0, 30, .inl F9.2.1)), (hs, .inl (cA 0, 30, .inl F9.2.2.1)), (hl, .inl (cA 0, 30, .inl F9.2.2.2.1)), (hi, .inl (cA 0, 30, .inl F9.2.2.2.2.1)), (h2, .inr (0, [.ref hb2, .int n2])), (hb2, .inl (cA 0, 60, .inl g))]) := by
  refine gw_met (by decide) rfl (Nat.le_of_ble_eq_true rfl) ?_
  intro p_ e_ s_ m_ args_ below_ meth_ c_ A_ S g_r g_k g_n hK hA
  refine gw_eq (ws' := [(h, .inr (4, [.ref hr, .ref ht, .ref hs, .ref hl, .ref hi, .int z])), (hr, .inr (0, [.ref hb, .int n])), (hb, .inl (cA 0, 60, .inl f)), (ht, .inl (cA 0, 30, .inl tg)), (hs, .inl (cA 0, 30, .inl ss)), (hl, .inl (cA 0, 30, .inl ln)), (hi, .inl (cA 0, 30, .inl nn)), (h2, .inr (0, [.ref hb2, .int n2])), (hb2, .inl (cA 0, 60, .inl g))]) (lv' := [(0, .ref h), (1, .ref h2)]) (st' := []) (pc' := 0) rfl rfl rfl rfl ?_
  refine gw_aload_n S dc_Tree_read_0 rfl 0 rfl ?_
  refine gw_get S hK.1 ic_Tree rfl 0 (by decide) (gw_lk S mw_169) 0 rfl rfl dc_Tree_read_1 ?_
  refine gw_aload_n S dc_Tree_read_4 rfl 1 rfl ?_
  refine gw_callV (As := [.ref h2]) (st := []) (wr := [(h, .inr (4, [.ref hr, .ref ht, .ref hs, .ref hl, .ref hi, .int z])), (ht, .inl (cA 0, 30, .inl tg)), (hs, .inl (cA 0, 30, .inl ss)), (hl, .inl (cA 0, 30, .inl ln)), (hi, .inl (cA 0, 30, .inl nn))]) S hK hA (fun sz => c_Row_copy l D cA sz hr hb n f h2 hb2 n2 g (by assumption)) (cw_Tree_33 S.2.2.2.2 rfl rfl ⟨Nat.le_of_ble_eq_true rfl, Nat.le_of_ble_eq_true rfl⟩) [1, 2, 7, 8] [0, 3, 4, 5, 6] rfl (by decide) rfl (by decide) (by decide) 0 rfl rfl rfl rfl rfl (Nat.le_of_ble_eq_true rfl) dc_Tree_read_5 ⟨Nat.le_of_ble_eq_true rfl, Nat.le_of_ble_eq_true rfl⟩ ?_
  rintro _ _ ⟨rfl, rfl⟩
  refine gw_eq (ws' := [(h, .inr (4, [.ref hr, .ref ht, .ref hs, .ref hl, .ref hi, .int z])), (ht, .inl (cA 0, 30, .inl tg)), (hs, .inl (cA 0, 30, .inl ss)), (hl, .inl (cA 0, 30, .inl ln)), (hi, .inl (cA 0, 30, .inl nn)), (hr, .inr (0, [.ref hb, .int n2])), (hb, .inl (cA 0, 60, .inl (cp_f f g (Int32.toNatClampNeg n2)))), (h2, .inr (0, [.ref hb2, .int n2])), (hb2, .inl (cA 0, 60, .inl g))]) (lv' := [(0, .ref h), (1, .ref h2)]) (st' := []) (pc' := 8) rfl rfl rfl rfl ?_
  refine gw_aload_n S dc_Tree_read_8 rfl 0 rfl ?_
  refine gw_iconst (v := 0) S dc_Tree_read_9 (by decide) ?_
  refine gw_put (ws' := [(h, .inr (4, [.ref hr, .ref ht, .ref hs, .ref hl, .ref hi, .int 0])), (ht, .inl (cA 0, 30, .inl tg)), (hs, .inl (cA 0, 30, .inl ss)), (hl, .inl (cA 0, 30, .inl ln)), (hi, .inl (cA 0, 30, .inl nn)), (hr, .inr (0, [.ref hb, .int n2])), (hb, .inl (cA 0, 60, .inl (cp_f f g (Int32.toNatClampNeg n2)))), (h2, .inr (0, [.ref hb2, .int n2])), (hb2, .inl (cA 0, 60, .inl g))]) (ty := .int) S hK.1 ic_Tree rfl 5 (by decide) ty_Tree to_Tree nm_Tree (gw_lk S mw_174) 0 rfl rfl (by decide +kernel) rfl rfl (Nat.le_of_ble_eq_true rfl) rfl dc_Tree_read_10 ?_
  refine gw_aload_n S dc_Tree_read_13 rfl 0 rfl ?_
  refine gw_iconst (v := 0) S dc_Tree_read_14 (by decide) ?_
  refine gw_aload_n S dc_Tree_read_15 rfl 0 rfl ?_
  refine gw_get S hK.1 ic_Tree rfl 0 (by decide) (gw_lk S mw_169) 0 rfl rfl dc_Tree_read_16 ?_
  refine gw_callVR (As := []) (st := [.int 0, .ref h]) S hK (c_Row_length l D cA hr hb n2 60 (cp_f f g (Int32.toNatClampNeg n2)) ) (cw_Tree_41 S.2.2.2.2 rfl rfl ⟨Nat.le_of_ble_eq_true rfl, Nat.le_of_ble_eq_true rfl⟩) [5, 6] rfl (by decide) 0 rfl rfl rfl rfl rfl (Nat.le_of_ble_eq_true rfl) dc_Tree_read_19 ⟨Nat.le_of_ble_eq_true rfl, Nat.le_of_ble_eq_true rfl⟩ ?_
  rintro _ rfl
  refine gw_eq (ws' := [(h, .inr (4, [.ref hr, .ref ht, .ref hs, .ref hl, .ref hi, .int 0])), (ht, .inl (cA 0, 30, .inl tg)), (hs, .inl (cA 0, 30, .inl ss)), (hl, .inl (cA 0, 30, .inl ln)), (hi, .inl (cA 0, 30, .inl nn)), (hr, .inr (0, [.ref hb, .int n2])), (hb, .inl (cA 0, 60, .inl (cp_f f g (Int32.toNatClampNeg n2)))), (h2, .inr (0, [.ref hb2, .int n2])), (hb2, .inl (cA 0, 60, .inl g))]) (lv' := [(0, .ref h), (1, .ref h2)]) (st' := [.int n2, .int 0, .ref h]) (pc' := 22) rfl rfl rfl rfl ?_
  refine gw_iconst (v := -1) S dc_Tree_read_22 (by decide) ?_
  refine gw_iconst (v := 0) S dc_Tree_read_23 (by decide) ?_
  refine gw_callV (As := [.int 0, .int n2, .int (-1), .int 0]) (st := []) (wr := [(h2, .inr (0, [.ref hb2, .int n2])), (hb2, .inl (cA 0, 60, .inl g))]) S hK hA (fun sz => c_Tree_cut_4 l D cA sz h hr ht hs hl hi 0 hb n2 (cp_f f g (Int32.toNatClampNeg n2)) tg ss ln nn 0 n2 (-1) (rw_0 (by decide)) hN) (cw_Tree_45 S.2.2.2.2 rfl rfl ⟨Nat.le_of_ble_eq_true rfl, Nat.le_of_ble_eq_true rfl⟩) [0, 5, 6, 1, 2, 3, 4] [7, 8] rfl (by decide) rfl (by decide) (by decide) 0 rfl rfl rfl rfl rfl (Nat.le_of_ble_eq_true rfl) dc_Tree_read_24 ⟨Nat.le_of_ble_eq_true rfl, Nat.le_of_ble_eq_true rfl⟩ ?_
  rintro _ _ ⟨F9_2, hF_3, rfl, rfl⟩
  refine gw_eq (ws' := [(h2, .inr (0, [.ref hb2, .int n2])), (hb2, .inl (cA 0, 60, .inl g)), (h, .inr (4, [.ref hr, .ref ht, .ref hs, .ref hl, .ref hi, .int F9_2.2.2.2.2.2])), (hr, .inr (0, [.ref hb, .int n2])), (hb, .inl (cA 0, 60, .inl (cp_f f g (Int32.toNatClampNeg n2)))), (ht, .inl (cA 0, 30, .inl F9_2.2.1)), (hs, .inl (cA 0, 30, .inl F9_2.2.2.1)), (hl, .inl (cA 0, 30, .inl F9_2.2.2.2.1)), (hi, .inl (cA 0, 30, .inl F9_2.2.2.2.2.1))]) (lv' := [(0, .ref h), (1, .ref h2)]) (st' := [.int F9_2.1]) (pc' := 27) rfl rfl rfl rfl ?_
  exact gw_iret (w := [(h, .inr (4, [.ref hr, .ref ht, .ref hs, .ref hl, .ref hi, .int F9_2.2.2.2.2.2])), (hr, .inr (0, [.ref hb, .int n2])), (hb, .inl (cA 0, 60, .inl (cp_f f g (Int32.toNatClampNeg n2)))), (ht, .inl (cA 0, 30, .inl F9_2.2.1)), (hs, .inl (cA 0, 30, .inl F9_2.2.2.1)), (hl, .inl (cA 0, 30, .inl F9_2.2.2.2.1)), (hi, .inl (cA 0, 30, .inl F9_2.2.2.2.2.1)), (h2, .inr (0, [.ref hb2, .int n2])), (hb2, .inl (cA 0, 60, .inl g))]) S g_r g_k  [2, 3, 4, 5, 6, 7, 8, 0, 1] rfl (by decide) ⟨_, hF_3, rfl, rfl⟩ dc_Tree_read_27
def f_PC_feed (n : Int32) (x : Int32) : Int32 := if (f_PC_isWithin x 0 255) = 0 then (-1) else (if (f_Row_add n 60) = 0 then (-2) else ((f_Row_add_length n 60)))
def f_PC_feed_length (n : Int32) (x : Int32) : Int32 := if (f_PC_isWithin x 0 255) = 0 then n else (f_Row_add_length n 60)
def f_PC_feed_2 (n : Int32) (f : Nat → Int32) (x : Int32) : Nat → Int32 := if (f_PC_isWithin x 0 255) = 0 then f else (f_Row_add_1 n 60 f x)
set_option maxRecDepth 100000 in
set_option maxHeartbeats 4000000 in
theorem c_PC_feed (l : Launch) (D : va_G) (cA : Nat → ClassId) (sz : Nat) (pc : Nat) (tx : Nat) (ca : Nat) (te : Nat) (hh : Nat) (hp : Nat) (qu : Nat) (sp : Nat) (pl : Int32) (ap : Int32) (tb : Nat) (n : Int32) (f : Nat → Int32) (x : Int32) (hN : rw_ok n 60) : ct_M l D cA yn_PC_feed cd_PC_feed 2 0 0 sz [.ref pc, .int x] [(pc, .inr (7, [.ref tx, .ref ca, .ref te, .ref hh, .ref hp, .ref qu, .ref sp, .int pl, .int ap])), (tx, .inr (0, [.ref tb, .int n])), (tb, .inl (cA 0, 60, .inl f))] (fun v_ w_ => v_ = some (.int (f_PC_feed n x)) ∧ w_ = [(pc, .inr (7, [.ref tx, .ref ca, .ref te, .ref hh, .ref hp, .ref qu, .ref sp, .int pl, .int ap])), (tx, .inr (0, [.ref tb, .int (f_PC_feed_length n x)])), (tb, .inl (cA 0, 60, .inl (f_PC_feed_2 n f x)))]) := by
  refine gw_met (by decide) rfl (Nat.le_of_ble_eq_true rfl) ?_
  intro p_ e_ s_ m_ args_ below_ meth_ c_ A_ S g_r g_k g_n hK hA
  refine gw_eq (ws' := [(pc, .inr (7, [.ref tx, .ref ca, .ref te, .ref hh, .ref hp, .ref qu, .ref sp, .int pl, .int ap])), (tx, .inr (0, [.ref tb, .int n])), (tb, .inl (cA 0, 60, .inl f))]) (lv' := [(0, .ref pc), (1, .int x)]) (st' := []) (pc' := 0) rfl rfl rfl rfl ?_
  refine gw_iload_n S dc_PC_feed_0 rfl 1 rfl ?_
  refine gw_iconst (v := 0) S dc_PC_feed_1 (by decide) ?_
  refine gw_sipush (v := 255) S dc_PC_feed_2 (by decide) ?_
  refine gw_callSR (As := [.int x, .int 0, .int 255]) (st := []) S hK (c_PC_isWithin l D cA x 0 255 ) (cw_PC_61 S.2.2.2.2 rfl rfl ⟨Nat.le_of_ble_eq_true rfl, Nat.le_of_ble_eq_true rfl⟩) [] rfl (by decide) rfl rfl (Nat.le_of_ble_eq_true rfl) dc_PC_feed_5 ⟨Nat.le_of_ble_eq_true rfl, Nat.le_of_ble_eq_true rfl⟩ ?_
  rintro _ rfl
  refine gw_eq (ws' := [(pc, .inr (7, [.ref tx, .ref ca, .ref te, .ref hh, .ref hp, .ref qu, .ref sp, .int pl, .int ap])), (tx, .inr (0, [.ref tb, .int n])), (tb, .inl (cA 0, 60, .inl f))]) (lv' := [(0, .ref pc), (1, .int x)]) (st' := [.int (f_PC_isWithin x 0 255)]) (pc' := 8) rfl rfl rfl rfl ?_
  refine gw_if_ne (tgt := 13) S dc_PC_feed_8 (by decide) (fun c_2 => ?_) (fun c_2 => ?_)
  · -- taken
    refine gw_aload_n S dc_PC_feed_13 rfl 0 rfl ?_
    refine gw_get S hK.1 ic_PC rfl 0 (by decide) (gw_lk S mw_245) 0 rfl rfl dc_PC_feed_14 ?_
    refine gw_iload_n S dc_PC_feed_17 rfl 1 rfl ?_
    refine gw_callV (As := [.int x]) (st := []) (wr := [(pc, .inr (7, [.ref tx, .ref ca, .ref te, .ref hh, .ref hp, .ref qu, .ref sp, .int pl, .int ap]))]) S hK hA (fun sz => c_Row_add l D cA sz tx tb n 60 f x (by assumption)) (cw_PC_65 S.2.2.2.2 rfl rfl ⟨Nat.le_of_ble_eq_true rfl, Nat.le_of_ble_eq_true rfl⟩) [1, 2] [0] rfl (by decide) rfl (by decide) (by decide) 0 rfl rfl rfl rfl rfl (Nat.le_of_ble_eq_true rfl) dc_PC_feed_18 ⟨Nat.le_of_ble_eq_true rfl, Nat.le_of_ble_eq_true rfl⟩ ?_
    rintro _ _ ⟨rfl, rfl⟩
    refine gw_eq (ws' := [(pc, .inr (7, [.ref tx, .ref ca, .ref te, .ref hh, .ref hp, .ref qu, .ref sp, .int pl, .int ap])), (tx, .inr (0, [.ref tb, .int (f_Row_add_length n 60)])), (tb, .inl (cA 0, 60, .inl (f_Row_add_1 n 60 f x)))]) (lv' := [(0, .ref pc), (1, .int x)]) (st' := [.int (f_Row_add n 60)]) (pc' := 21) rfl rfl rfl rfl ?_
    refine gw_if_eq (tgt := 34) S dc_PC_feed_21 (by decide) (fun c_3 => ?_) (fun c_3 => ?_)
    · -- taken
      refine gw_bipush (v := -2) S dc_PC_feed_34 (by decide) ?_
      exact gw_iret (w := [(pc, .inr (7, [.ref tx, .ref ca, .ref te, .ref hh, .ref hp, .ref qu, .ref sp, .int pl, .int ap])), (tx, .inr (0, [.ref tb, .int (f_Row_add_length n 60)])), (tb, .inl (cA 0, 60, .inl (f_Row_add_1 n 60 f x)))]) S g_r g_k  [0, 1, 2] rfl (by decide) ⟨(by simp only [f_PC_feed, f_PC_feed_length, f_PC_feed_2, if_neg c_2, if_pos c_3]), (by simp only [f_PC_feed, f_PC_feed_length, f_PC_feed_2, if_neg c_2, if_pos c_3])⟩ dc_PC_feed_36
    · -- not
      refine gw_aload_n S dc_PC_feed_24 rfl 0 rfl ?_
      refine gw_get S hK.1 ic_PC rfl 0 (by decide) (gw_lk S mw_245) 0 rfl rfl dc_PC_feed_25 ?_
      refine gw_callVR (As := []) (st := []) S hK (c_Row_length l D cA tx tb (f_Row_add_length n 60) 60 (f_Row_add_1 n 60 f x) ) (cw_PC_69 S.2.2.2.2 rfl rfl ⟨Nat.le_of_ble_eq_true rfl, Nat.le_of_ble_eq_true rfl⟩) [1, 2] rfl (by decide) 0 rfl rfl rfl rfl rfl (Nat.le_of_ble_eq_true rfl) dc_PC_feed_28 ⟨Nat.le_of_ble_eq_true rfl, Nat.le_of_ble_eq_true rfl⟩ ?_
      rintro _ rfl
      refine gw_eq (ws' := [(pc, .inr (7, [.ref tx, .ref ca, .ref te, .ref hh, .ref hp, .ref qu, .ref sp, .int pl, .int ap])), (tx, .inr (0, [.ref tb, .int (f_Row_add_length n 60)])), (tb, .inl (cA 0, 60, .inl (f_Row_add_1 n 60 f x)))]) (lv' := [(0, .ref pc), (1, .int x)]) (st' := [.int (f_Row_add_length n 60)]) (pc' := 31) rfl rfl rfl rfl ?_
      refine gw_goto (tgt := 36) S dc_PC_feed_31 (by decide) ?_
      exact gw_iret (w := [(pc, .inr (7, [.ref tx, .ref ca, .ref te, .ref hh, .ref hp, .ref qu, .ref sp, .int pl, .int ap])), (tx, .inr (0, [.ref tb, .int (f_Row_add_length n 60)])), (tb, .inl (cA 0, 60, .inl (f_Row_add_1 n 60 f x)))]) S g_r g_k  [0, 1, 2] rfl (by decide) ⟨(by simp only [f_PC_feed, f_PC_feed_length, f_PC_feed_2, if_neg c_2, if_neg c_3]), (by simp only [f_PC_feed, f_PC_feed_length, f_PC_feed_2, if_neg c_2, if_neg c_3])⟩ dc_PC_feed_36
  · -- not
    refine gw_iconst (v := -1) S dc_PC_feed_11 (by decide) ?_
    exact gw_iret (w := [(pc, .inr (7, [.ref tx, .ref ca, .ref te, .ref hh, .ref hp, .ref qu, .ref sp, .int pl, .int ap])), (tx, .inr (0, [.ref tb, .int n])), (tb, .inl (cA 0, 60, .inl f))]) S g_r g_k  [0, 1, 2] rfl (by decide) ⟨(by simp only [f_PC_feed, f_PC_feed_length, f_PC_feed_2, if_pos c_2]), (by simp only [f_PC_feed, f_PC_feed_length, f_PC_feed_2, if_pos c_2])⟩ dc_PC_feed_12
set_option maxRecDepth 100000 in
set_option maxHeartbeats 4000000 in
theorem c_PC_wipe (l : Launch) (D : va_G) (cA : Nat → ClassId) (sz : Nat) (pc : Nat) (tx : Nat) (ca : Nat) (te : Nat) (hh : Nat) (hp : Nat) (qu : Nat) (sp : Nat) (pl : Int32) (ap : Int32) (tb : Nat) (n : Int32) (f : Nat → Int32)  : ct_M l D cA yn_PC_wipe cd_PC_wipe 2 0 0 sz [.ref pc] [(pc, .inr (7, [.ref tx, .ref ca, .ref te, .ref hh, .ref hp, .ref qu, .ref sp, .int pl, .int ap])), (tx, .inr (0, [.ref tb, .int n])), (tb, .inl (cA 0, 60, .inl f))] (fun v_ w_ => v_ = some (.int n) ∧ w_ = [(pc, .inr (7, [.ref tx, .ref ca, .ref te, .ref hh, .ref hp, .ref qu, .ref sp, .int pl, .int ap])), (tx, .inr (0, [.ref tb, .int 0])), (tb, .inl (cA 0, 60, .inl f))]) := by
  refine gw_met (by decide) rfl (Nat.le_of_ble_eq_true rfl) ?_
  intro p_ e_ s_ m_ args_ below_ meth_ c_ A_ S g_r g_k g_n hK hA
  refine gw_eq (ws' := [(pc, .inr (7, [.ref tx, .ref ca, .ref te, .ref hh, .ref hp, .ref qu, .ref sp, .int pl, .int ap])), (tx, .inr (0, [.ref tb, .int n])), (tb, .inl (cA 0, 60, .inl f))]) (lv' := [(0, .ref pc)]) (st' := []) (pc' := 0) rfl rfl rfl rfl ?_
  refine gw_aload_n S dc_PC_wipe_0 rfl 0 rfl ?_
  refine gw_get S hK.1 ic_PC rfl 0 (by decide) (gw_lk S mw_245) 0 rfl rfl dc_PC_wipe_1 ?_
  refine gw_callVR (As := []) (st := []) S hK (c_Row_length l D cA tx tb n 60 f ) (cw_PC_69 S.2.2.2.2 rfl rfl ⟨Nat.le_of_ble_eq_true rfl, Nat.le_of_ble_eq_true rfl⟩) [1, 2] rfl (by decide) 0 rfl rfl rfl rfl rfl (Nat.le_of_ble_eq_true rfl) dc_PC_wipe_4 ⟨Nat.le_of_ble_eq_true rfl, Nat.le_of_ble_eq_true rfl⟩ ?_
  rintro _ rfl
  refine gw_eq (ws' := [(pc, .inr (7, [.ref tx, .ref ca, .ref te, .ref hh, .ref hp, .ref qu, .ref sp, .int pl, .int ap])), (tx, .inr (0, [.ref tb, .int n])), (tb, .inl (cA 0, 60, .inl f))]) (lv' := [(0, .ref pc)]) (st' := [.int n]) (pc' := 7) rfl rfl rfl rfl ?_
  refine gw_istore_n (lv' := [(1, .int n), (0, .ref pc)]) S dc_PC_wipe_7 rfl (by decide) rfl ?_
  refine gw_aload_n S dc_PC_wipe_8 rfl 1 rfl ?_
  refine gw_get S hK.1 ic_PC rfl 0 (by decide) (gw_lk S mw_245) 0 rfl rfl dc_PC_wipe_9 ?_
  refine gw_callV (As := []) (st := []) (wr := [(pc, .inr (7, [.ref tx, .ref ca, .ref te, .ref hh, .ref hp, .ref qu, .ref sp, .int pl, .int ap]))]) S hK hA (fun sz => c_Row_clear l D cA sz tx tb n 60 f ) (cw_PC_73 S.2.2.2.2 rfl rfl ⟨Nat.le_of_ble_eq_true rfl, Nat.le_of_ble_eq_true rfl⟩) [1, 2] [0] rfl (by decide) rfl (by decide) (by decide) 0 rfl rfl rfl rfl rfl (Nat.le_of_ble_eq_true rfl) dc_PC_wipe_12 ⟨Nat.le_of_ble_eq_true rfl, Nat.le_of_ble_eq_true rfl⟩ ?_
  rintro _ _ ⟨rfl, rfl⟩
  refine gw_eq (ws' := [(pc, .inr (7, [.ref tx, .ref ca, .ref te, .ref hh, .ref hp, .ref qu, .ref sp, .int pl, .int ap])), (tx, .inr (0, [.ref tb, .int 0])), (tb, .inl (cA 0, 60, .inl f))]) (lv' := [(1, .int n), (0, .ref pc)]) (st' := []) (pc' := 15) rfl rfl rfl rfl ?_
  refine gw_iload_n S dc_PC_wipe_15 rfl 0 rfl ?_
  exact gw_iret (w := [(pc, .inr (7, [.ref tx, .ref ca, .ref te, .ref hh, .ref hp, .ref qu, .ref sp, .int pl, .int ap])), (tx, .inr (0, [.ref tb, .int 0])), (tb, .inl (cA 0, 60, .inl f))]) S g_r g_k  [0, 1, 2] rfl (by decide) ⟨rfl, rfl⟩ dc_PC_wipe_16
set_option maxRecDepth 100000 in
set_option maxHeartbeats 4000000 in
theorem c_PC_place (l : Launch) (D : va_G) (cA : Nat → ClassId) (pc : Nat) (tx : Nat) (ca : Nat) (te : Nat) (hh : Nat) (hp : Nat) (qu : Nat) (sp : Nat) (pl : Int32) (ap : Int32)  : ct_R l D cA yn_PC_place cd_PC_place 1 [.ref pc] [(pc, .inr (7, [.ref tx, .ref ca, .ref te, .ref hh, .ref hp, .ref qu, .ref sp, .int pl, .int ap]))] (fun v_ => v_ = some (.int pl)) := by
  refine gw_metR (by decide) rfl (Nat.le_of_ble_eq_true rfl) ?_
  intro p_ e_ s_ m_ args_ below_ meth_ c_ S g_r g_k hK
  refine gw_eq (ws' := [(pc, .inr (7, [.ref tx, .ref ca, .ref te, .ref hh, .ref hp, .ref qu, .ref sp, .int pl, .int ap]))]) (lv' := [(0, .ref pc)]) (st' := []) (pc' := 0) rfl rfl rfl rfl ?_
  refine gw_aload_n S dc_PC_place_0 rfl 0 rfl ?_
  refine gw_get S hK.1 ic_PC rfl 7 (by decide) (gw_lk S mw_252) 0 rfl rfl dc_PC_place_1 ?_
  exact gw_iretR S g_r g_k  rfl dc_PC_place_4
def f_PC_account (x : Int32) (y : Int32) : Int32 := if (f_PC_isWithin x 0 7) = 0 then (-1) else (if (f_PC_isWithin y 0 9999999) = 0 then (-1) else (0))
def f_PC_account_2 (b : Nat → Int64) (x : Int32) (y : Int32) : Nat → Int64 := if (f_PC_isWithin x 0 7) = 0 then b else (if (f_PC_isWithin y 0 9999999) = 0 then b else (f_Host_open_1 b x y))
def f_PC_account_3 (k : Nat → Int32) (x : Int32) (y : Int32) (w : Int32) : Nat → Int32 := if (f_PC_isWithin x 0 7) = 0 then k else (if (f_PC_isWithin y 0 9999999) = 0 then k else (f_Host_open_2 k x w))
def f_PC_account_4 (la : Nat → Int32) (x : Int32) (y : Int32) : Nat → Int32 := if (f_PC_isWithin x 0 7) = 0 then la else (if (f_PC_isWithin y 0 9999999) = 0 then la else (f_Host_open_3 la x))
set_option maxRecDepth 100000 in
set_option maxHeartbeats 4000000 in
theorem c_PC_account (l : Launch) (D : va_G) (cA : Nat → ClassId) (sz : Nat) (pc : Nat) (tx : Nat) (ca : Nat) (te : Nat) (hh : Nat) (hp : Nat) (qu : Nat) (sp : Nat) (pl : Int32) (ap : Int32) (h1 : Nat) (h2 : Nat) (h3 : Nat) (b : Nat → Int64) (k : Nat → Int32) (la : Nat → Int32) (sd : Int32) (x : Int32) (y : Int32) (w : Int32)  : ct_M l D cA yn_PC_account cd_PC_account 4 0 0 sz [.ref pc, .int x, .int y, .int w] [(pc, .inr (7, [.ref tx, .ref ca, .ref te, .ref hh, .ref hp, .ref qu, .ref sp, .int pl, .int ap])), (hh, .inr (2, [.ref h1, .ref h2, .ref h3, .int sd])), (h1, .inl (cA 1, 8, .inr (.inl b))), (h2, .inl (cA 0, 8, .inl k)), (h3, .inl (cA 0, 8, .inl la))] (fun v_ w_ => v_ = some (.int (f_PC_account x y)) ∧ w_ = [(pc, .inr (7, [.ref tx, .ref ca, .ref te, .ref hh, .ref hp, .ref qu, .ref sp, .int pl, .int ap])), (hh, .inr (2, [.ref h1, .ref h2, .ref h3, .int sd])), (h1, .inl (cA 1, 8, .inr (.inl (f_PC_account_2 b x y)))), (h2, .inl (cA 0, 8, .inl (f_PC_account_3 k x y w))), (h3, .inl (cA 0, 8, .inl (f_PC_account_4 la x y)))]) := by
  refine gw_met (by decide) rfl (Nat.le_of_ble_eq_true rfl) ?_
  intro p_ e_ s_ m_ args_ below_ meth_ c_ A_ S g_r g_k g_n hK hA
  refine gw_eq (ws' := [(pc, .inr (7, [.ref tx, .ref ca, .ref te, .ref hh, .ref hp, .ref qu, .ref sp, .int pl, .int ap])), (hh, .inr (2, [.ref h1, .ref h2, .ref h3, .int sd])), (h1, .inl (cA 1, 8, .inr (.inl b))), (h2, .inl (cA 0, 8, .inl k)), (h3, .inl (cA 0, 8, .inl la))]) (lv' := [(0, .ref pc), (1, .int x), (2, .int y), (3, .int w)]) (st' := []) (pc' := 0) rfl rfl rfl rfl ?_
  refine gw_iload_n S dc_PC_account_0 rfl 1 rfl ?_
  refine gw_iconst (v := 0) S dc_PC_account_1 (by decide) ?_
  refine gw_bipush (v := 7) S dc_PC_account_2 (by decide) ?_
  refine gw_callSR (As := [.int x, .int 0, .int 7]) (st := []) S hK (c_PC_isWithin l D cA x 0 7 ) (cw_PC_61 S.2.2.2.2 rfl rfl ⟨Nat.le_of_ble_eq_true rfl, Nat.le_of_ble_eq_true rfl⟩) [] rfl (by decide) rfl rfl (Nat.le_of_ble_eq_true rfl) dc_PC_account_4 ⟨Nat.le_of_ble_eq_true rfl, Nat.le_of_ble_eq_true rfl⟩ ?_
  rintro _ rfl
  refine gw_eq (ws' := [(pc, .inr (7, [.ref tx, .ref ca, .ref te, .ref hh, .ref hp, .ref qu, .ref sp, .int pl, .int ap])), (hh, .inr (2, [.ref h1, .ref h2, .ref h3, .int sd])), (h1, .inl (cA 1, 8, .inr (.inl b))), (h2, .inl (cA 0, 8, .inl k)), (h3, .inl (cA 0, 8, .inl la))]) (lv' := [(0, .ref pc), (1, .int x), (2, .int y), (3, .int w)]) (st' := [.int (f_PC_isWithin x 0 7)]) (pc' := 7) rfl rfl rfl rfl ?_
  refine gw_if_eq (tgt := 20) S dc_PC_account_7 (by decide) (fun c_2 => ?_) (fun c_2 => ?_)
  · -- taken
    refine gw_iconst (v := -1) S dc_PC_account_20 (by decide) ?_
    exact gw_iret (w := [(pc, .inr (7, [.ref tx, .ref ca, .ref te, .ref hh, .ref hp, .ref qu, .ref sp, .int pl, .int ap])), (hh, .inr (2, [.ref h1, .ref h2, .ref h3, .int sd])), (h1, .inl (cA 1, 8, .inr (.inl b))), (h2, .inl (cA 0, 8, .inl k)), (h3, .inl (cA 0, 8, .inl la))]) S g_r g_k  [0, 1, 2, 3, 4] rfl (by decide) ⟨(by simp only [f_PC_account, f_PC_account_2, f_PC_account_3, f_PC_account_4, if_pos c_2]), (by simp only [f_PC_account, f_PC_account_2, f_PC_account_3, f_PC_account_4, if_pos c_2])⟩ dc_PC_account_21
  · -- not
    refine gw_iload_n S dc_PC_account_10 rfl 2 rfl ?_
    refine gw_iconst (v := 0) S dc_PC_account_11 (by decide) ?_
    refine gw_ldc (v := 9999999) S (gw_lk S mw_413) dc_PC_account_12 ?_
    refine gw_callSR (As := [.int y, .int 0, .int 9999999]) (st := []) S hK (c_PC_isWithin l D cA y 0 9999999 ) (cw_PC_61 S.2.2.2.2 rfl rfl ⟨Nat.le_of_ble_eq_true rfl, Nat.le_of_ble_eq_true rfl⟩) [] rfl (by decide) rfl rfl (Nat.le_of_ble_eq_true rfl) dc_PC_account_14 ⟨Nat.le_of_ble_eq_true rfl, Nat.le_of_ble_eq_true rfl⟩ ?_
    rintro _ rfl
    refine gw_eq (ws' := [(pc, .inr (7, [.ref tx, .ref ca, .ref te, .ref hh, .ref hp, .ref qu, .ref sp, .int pl, .int ap])), (hh, .inr (2, [.ref h1, .ref h2, .ref h3, .int sd])), (h1, .inl (cA 1, 8, .inr (.inl b))), (h2, .inl (cA 0, 8, .inl k)), (h3, .inl (cA 0, 8, .inl la))]) (lv' := [(0, .ref pc), (1, .int x), (2, .int y), (3, .int w)]) (st' := [.int (f_PC_isWithin y 0 9999999)]) (pc' := 17) rfl rfl rfl rfl ?_
    refine gw_if_ne (tgt := 22) S dc_PC_account_17 (by decide) (fun c_4 => ?_) (fun c_4 => ?_)
    · -- taken
      refine gw_aload_n S dc_PC_account_22 rfl 0 rfl ?_
      refine gw_get S hK.1 ic_PC rfl 3 (by decide) (gw_lk S mw_248) 0 rfl rfl dc_PC_account_23 ?_
      refine gw_iload_n S dc_PC_account_26 rfl 1 rfl ?_
      refine gw_iload_n S dc_PC_account_27 rfl 2 rfl ?_
      refine gw_iload_n S dc_PC_account_28 rfl 3 rfl ?_
      refine gw_callV (As := [.int x, .int y, .int w]) (st := []) (wr := [(pc, .inr (7, [.ref tx, .ref ca, .ref te, .ref hh, .ref hp, .ref qu, .ref sp, .int pl, .int ap]))]) S hK hA (fun sz => c_Host_open l D cA sz hh h1 h2 h3 b k la sd x y w ) (cw_PC_100 S.2.2.2.2 rfl rfl ⟨Nat.le_of_ble_eq_true rfl, Nat.le_of_ble_eq_true rfl⟩) [1, 2, 3, 4] [0] rfl (by decide) rfl (by decide) (by decide) 0 rfl rfl rfl rfl rfl (Nat.le_of_ble_eq_true rfl) dc_PC_account_29 ⟨Nat.le_of_ble_eq_true rfl, Nat.le_of_ble_eq_true rfl⟩ ?_
      rintro _ _ ⟨rfl, rfl⟩
      refine gw_eq (ws' := [(pc, .inr (7, [.ref tx, .ref ca, .ref te, .ref hh, .ref hp, .ref qu, .ref sp, .int pl, .int ap])), (hh, .inr (2, [.ref h1, .ref h2, .ref h3, .int sd])), (h1, .inl (cA 1, 8, .inr (.inl (f_Host_open_1 b x y)))), (h2, .inl (cA 0, 8, .inl (f_Host_open_2 k x w))), (h3, .inl (cA 0, 8, .inl (f_Host_open_3 la x)))]) (lv' := [(0, .ref pc), (1, .int x), (2, .int y), (3, .int w)]) (st' := []) (pc' := 32) rfl rfl rfl rfl ?_
      refine gw_iconst (v := 0) S dc_PC_account_32 (by decide) ?_
      exact gw_iret (w := [(pc, .inr (7, [.ref tx, .ref ca, .ref te, .ref hh, .ref hp, .ref qu, .ref sp, .int pl, .int ap])), (hh, .inr (2, [.ref h1, .ref h2, .ref h3, .int sd])), (h1, .inl (cA 1, 8, .inr (.inl (f_Host_open_1 b x y)))), (h2, .inl (cA 0, 8, .inl (f_Host_open_2 k x w))), (h3, .inl (cA 0, 8, .inl (f_Host_open_3 la x)))]) S g_r g_k  [0, 1, 2, 3, 4] rfl (by decide) ⟨(by simp only [f_PC_account, f_PC_account_2, f_PC_account_3, f_PC_account_4, if_neg c_2, if_neg c_4]), (by simp only [f_PC_account, f_PC_account_2, f_PC_account_3, f_PC_account_4, if_neg c_2, if_neg c_4])⟩ dc_PC_account_33
    · -- not
      refine gw_iconst (v := -1) S dc_PC_account_20 (by decide) ?_
      exact gw_iret (w := [(pc, .inr (7, [.ref tx, .ref ca, .ref te, .ref hh, .ref hp, .ref qu, .ref sp, .int pl, .int ap])), (hh, .inr (2, [.ref h1, .ref h2, .ref h3, .int sd])), (h1, .inl (cA 1, 8, .inr (.inl b))), (h2, .inl (cA 0, 8, .inl k)), (h3, .inl (cA 0, 8, .inl la))]) S g_r g_k  [0, 1, 2, 3, 4] rfl (by decide) ⟨(by simp only [f_PC_account, f_PC_account_2, f_PC_account_3, f_PC_account_4, if_neg c_2, if_pos c_4]), (by simp only [f_PC_account, f_PC_account_2, f_PC_account_3, f_PC_account_4, if_neg c_2, if_pos c_4])⟩ dc_PC_account_21
def f_PC_setting (x : Int32) (y : Int32) : Int32 := if (f_Term_set x y) = 0 then (-1) else (0)
set_option maxRecDepth 100000 in
set_option maxHeartbeats 4000000 in
theorem c_PC_setting (l : Launch) (D : va_G) (cA : Nat → ClassId) (sz : Nat) (pc : Nat) (tx : Nat) (ca : Nat) (te : Nat) (hh : Nat) (hp : Nat) (qu : Nat) (sp : Nat) (pl : Int32) (ap : Int32) (hs : Nat) (g : Nat → Int32) (x : Int32) (y : Int32)  : ct_M l D cA yn_PC_setting cd_PC_setting 3 0 0 sz [.ref pc, .int x, .int y] [(pc, .inr (7, [.ref tx, .ref ca, .ref te, .ref hh, .ref hp, .ref qu, .ref sp, .int pl, .int ap])), (te, .inr (1, [.ref hs])), (hs, .inl (cA 0, 7, .inl g))] (fun v_ w_ => v_ = some (.int (f_PC_setting x y)) ∧ w_ = [(pc, .inr (7, [.ref tx, .ref ca, .ref te, .ref hh, .ref hp, .ref qu, .ref sp, .int pl, .int ap])), (te, .inr (1, [.ref hs])), (hs, .inl (cA 0, 7, .inl (f_Term_set_1 g x y)))]) := by
  refine gw_met (by decide) rfl (Nat.le_of_ble_eq_true rfl) ?_
  intro p_ e_ s_ m_ args_ below_ meth_ c_ A_ S g_r g_k g_n hK hA
  refine gw_eq (ws' := [(pc, .inr (7, [.ref tx, .ref ca, .ref te, .ref hh, .ref hp, .ref qu, .ref sp, .int pl, .int ap])), (te, .inr (1, [.ref hs])), (hs, .inl (cA 0, 7, .inl g))]) (lv' := [(0, .ref pc), (1, .int x), (2, .int y)]) (st' := []) (pc' := 0) rfl rfl rfl rfl ?_
  refine gw_aload_n S dc_PC_setting_0 rfl 0 rfl ?_
  refine gw_get S hK.1 ic_PC rfl 2 (by decide) (gw_lk S mw_247) 0 rfl rfl dc_PC_setting_1 ?_
  refine gw_iload_n S dc_PC_setting_4 rfl 1 rfl ?_
  refine gw_iload_n S dc_PC_setting_5 rfl 2 rfl ?_
  refine gw_callV (As := [.int x, .int y]) (st := []) (wr := [(pc, .inr (7, [.ref tx, .ref ca, .ref te, .ref hh, .ref hp, .ref qu, .ref sp, .int pl, .int ap]))]) S hK hA (fun sz => c_Term_set l D cA sz te hs g x y ) (cw_PC_104 S.2.2.2.2 rfl rfl ⟨Nat.le_of_ble_eq_true rfl, Nat.le_of_ble_eq_true rfl⟩) [1, 2] [0] rfl (by decide) rfl (by decide) (by decide) 0 rfl rfl rfl rfl rfl (Nat.le_of_ble_eq_true rfl) dc_PC_setting_6 ⟨Nat.le_of_ble_eq_true rfl, Nat.le_of_ble_eq_true rfl⟩ ?_
  rintro _ _ ⟨rfl, rfl⟩
  refine gw_eq (ws' := [(pc, .inr (7, [.ref tx, .ref ca, .ref te, .ref hh, .ref hp, .ref qu, .ref sp, .int pl, .int ap])), (te, .inr (1, [.ref hs])), (hs, .inl (cA 0, 7, .inl (f_Term_set_1 g x y)))]) (lv' := [(0, .ref pc), (1, .int x), (2, .int y)]) (st' := [.int (f_Term_set x y)]) (pc' := 9) rfl rfl rfl rfl ?_
  refine gw_if_eq (tgt := 16) S dc_PC_setting_9 (by decide) (fun c_1 => ?_) (fun c_1 => ?_)
  · -- taken
    refine gw_iconst (v := -1) S dc_PC_setting_16 (by decide) ?_
    exact gw_iret (w := [(pc, .inr (7, [.ref tx, .ref ca, .ref te, .ref hh, .ref hp, .ref qu, .ref sp, .int pl, .int ap])), (te, .inr (1, [.ref hs])), (hs, .inl (cA 0, 7, .inl (f_Term_set_1 g x y)))]) S g_r g_k  [0, 1, 2] rfl (by decide) ⟨(by simp only [f_PC_setting, if_pos c_1]), (by simp only [f_PC_setting, if_pos c_1])⟩ dc_PC_setting_17
  · -- not
    refine gw_iconst (v := 0) S dc_PC_setting_12 (by decide) ?_
    refine gw_goto (tgt := 17) S dc_PC_setting_13 (by decide) ?_
    exact gw_iret (w := [(pc, .inr (7, [.ref tx, .ref ca, .ref te, .ref hh, .ref hp, .ref qu, .ref sp, .int pl, .int ap])), (te, .inr (1, [.ref hs])), (hs, .inl (cA 0, 7, .inl (f_Term_set_1 g x y)))]) S g_r g_k  [0, 1, 2] rfl (by decide) ⟨(by simp only [f_PC_setting, if_neg c_1]), (by simp only [f_PC_setting, if_neg c_1])⟩ dc_PC_setting_17
def f_PC_last (nu : Int32) (oc : Int32) (fl : Int32) (wi : Int32) (fi : Int32) (fc : Int32) (s2 : Int32) (sc : Int32) (co : Int32) (x : Int32) : Int32 := f_Pmt_tell nu oc fl wi fi fc s2 sc co x
set_option maxRecDepth 100000 in
set_option maxHeartbeats 4000000 in
theorem c_PC_last (l : Launch) (D : va_G) (cA : Nat → ClassId) (pc : Nat) (tx : Nat) (ca : Nat) (te : Nat) (hh : Nat) (hp : Nat) (qu : Nat) (sp : Nat) (pl : Int32) (ap : Int32) (hd : Nat) (nu : Int32) (am : Int32) (ty : Int32) (fa : Int32) (oc : Int32) (fl : Int32) (wi : Int32) (fi : Int32) (fc : Int32) (s2 : Int32) (sc : Int32) (co : Int32) (x : Int32)  : ct_R l D cA yn_PC_last cd_PC_last 2 [.ref pc, .int x] [(pc, .inr (7, [.ref tx, .ref ca, .ref te, .ref hh, .ref hp, .ref qu, .ref sp, .int pl, .int ap])), (hp, .inr (3, [.ref hd, .int nu, .int am, .int ty, .int fa, .int oc, .int fl, .int wi, .int fi, .int fc, .int s2, .int sc, .int co]))] (fun v_ => v_ = some (.int (f_PC_last nu oc fl wi fi fc s2 sc co x))) := by
  refine gw_metR (by decide) rfl (Nat.le_of_ble_eq_true rfl) ?_
  intro p_ e_ s_ m_ args_ below_ meth_ c_ S g_r g_k hK
  refine gw_eq (ws' := [(pc, .inr (7, [.ref tx, .ref ca, .ref te, .ref hh, .ref hp, .ref qu, .ref sp, .int pl, .int ap])), (hp, .inr (3, [.ref hd, .int nu, .int am, .int ty, .int fa, .int oc, .int fl, .int wi, .int fi, .int fc, .int s2, .int sc, .int co]))]) (lv' := [(0, .ref pc), (1, .int x)]) (st' := []) (pc' := 0) rfl rfl rfl rfl ?_
  refine gw_aload_n S dc_PC_last_0 rfl 0 rfl ?_
  refine gw_get S hK.1 ic_PC rfl 4 (by decide) (gw_lk S mw_249) 0 rfl rfl dc_PC_last_1 ?_
  refine gw_iload_n S dc_PC_last_4 rfl 1 rfl ?_
  refine gw_callVR (As := [.int x]) (st := []) S hK (c_Pmt_tell l D cA hp hd nu am ty fa oc fl wi fi fc s2 sc co x ) (cw_PC_160 S.2.2.2.2 rfl rfl ⟨Nat.le_of_ble_eq_true rfl, Nat.le_of_ble_eq_true rfl⟩) [1] rfl (by decide) 0 rfl rfl rfl rfl rfl (Nat.le_of_ble_eq_true rfl) dc_PC_last_5 ⟨Nat.le_of_ble_eq_true rfl, Nat.le_of_ble_eq_true rfl⟩ ?_
  rintro _ rfl
  refine gw_eq (ws' := [(pc, .inr (7, [.ref tx, .ref ca, .ref te, .ref hh, .ref hp, .ref qu, .ref sp, .int pl, .int ap])), (hp, .inr (3, [.ref hd, .int nu, .int am, .int ty, .int fa, .int oc, .int fl, .int wi, .int fi, .int fc, .int s2, .int sc, .int co]))]) (lv' := [(0, .ref pc), (1, .int x)]) (st' := [.int (f_Pmt_tell nu oc fl wi fi fc s2 sc co x)]) (pc' := 8) rfl rfl rfl rfl ?_
  exact gw_iretR S g_r g_k  (by simp only [f_PC_last]) dc_PC_last_8
def f_PC_data (dn : Int32) (df : Nat → Int32) (x : Int32) : Int32 := f_PC_orRefused (f_Row_at dn df x)
set_option maxRecDepth 100000 in
set_option maxHeartbeats 4000000 in
theorem c_PC_data (l : Launch) (D : va_G) (cA : Nat → ClassId) (pc : Nat) (tx : Nat) (ca : Nat) (te : Nat) (hh : Nat) (hp : Nat) (qu : Nat) (sp : Nat) (pl : Int32) (ap : Int32) (hd : Nat) (nu : Int32) (am : Int32) (ty : Int32) (fa : Int32) (oc : Int32) (fl : Int32) (wi : Int32) (fi : Int32) (fc : Int32) (s2 : Int32) (sc : Int32) (co : Int32) (db : Nat) (dn : Int32) (df : Nat → Int32) (x : Int32) (hN : rw_ok dn 40) : ct_R l D cA yn_PC_data cd_PC_data 2 [.ref pc, .int x] [(pc, .inr (7, [.ref tx, .ref ca, .ref te, .ref hh, .ref hp, .ref qu, .ref sp, .int pl, .int ap])), (hp, .inr (3, [.ref hd, .int nu, .int am, .int ty, .int fa, .int oc, .int fl, .int wi, .int fi, .int fc, .int s2, .int sc, .int co])), (hd, .inr (0, [.ref db, .int dn])), (db, .inl (cA 0, 40, .inl df))] (fun v_ => v_ = some (.int (f_PC_data dn df x))) := by
  refine gw_metR (by decide) rfl (Nat.le_of_ble_eq_true rfl) ?_
  intro p_ e_ s_ m_ args_ below_ meth_ c_ S g_r g_k hK
  refine gw_eq (ws' := [(pc, .inr (7, [.ref tx, .ref ca, .ref te, .ref hh, .ref hp, .ref qu, .ref sp, .int pl, .int ap])), (hp, .inr (3, [.ref hd, .int nu, .int am, .int ty, .int fa, .int oc, .int fl, .int wi, .int fi, .int fc, .int s2, .int sc, .int co])), (hd, .inr (0, [.ref db, .int dn])), (db, .inl (cA 0, 40, .inl df))]) (lv' := [(0, .ref pc), (1, .int x)]) (st' := []) (pc' := 0) rfl rfl rfl rfl ?_
  refine gw_aload_n S dc_PC_data_0 rfl 0 rfl ?_
  refine gw_get S hK.1 ic_PC rfl 4 (by decide) (gw_lk S mw_249) 0 rfl rfl dc_PC_data_1 ?_
  refine gw_getN S hK.1 ic_Pmt rfl 0 (by decide) (hK.2 _ mn_85).2 1 rfl rfl dc_PC_data_4 ?_
  refine gw_iload_n S dc_PC_data_7 rfl 1 rfl ?_
  refine gw_callVR (As := [.int x]) (st := []) S hK (c_Row_at l D cA hd db dn 40 df x (by assumption)) (cw_PC_167 S.2.2.2.2 rfl rfl ⟨Nat.le_of_ble_eq_true rfl, Nat.le_of_ble_eq_true rfl⟩) [2, 3] rfl (by decide) 0 rfl rfl rfl rfl rfl (Nat.le_of_ble_eq_true rfl) dc_PC_data_8 ⟨Nat.le_of_ble_eq_true rfl, Nat.le_of_ble_eq_true rfl⟩ ?_
  rintro _ rfl
  refine gw_eq (ws' := [(pc, .inr (7, [.ref tx, .ref ca, .ref te, .ref hh, .ref hp, .ref qu, .ref sp, .int pl, .int ap])), (hp, .inr (3, [.ref hd, .int nu, .int am, .int ty, .int fa, .int oc, .int fl, .int wi, .int fi, .int fc, .int s2, .int sc, .int co])), (hd, .inr (0, [.ref db, .int dn])), (db, .inl (cA 0, 40, .inl df))]) (lv' := [(0, .ref pc), (1, .int x)]) (st' := [.int (f_Row_at dn df x)]) (pc' := 11) rfl rfl rfl rfl ?_
  refine gw_callSR (As := [.int (f_Row_at dn df x)]) (st := []) S hK (c_PC_orRefused l D cA (f_Row_at dn df x) ) (cw_PC_170 S.2.2.2.2 rfl rfl ⟨Nat.le_of_ble_eq_true rfl, Nat.le_of_ble_eq_true rfl⟩) [] rfl (by decide) rfl rfl (Nat.le_of_ble_eq_true rfl) dc_PC_data_11 ⟨Nat.le_of_ble_eq_true rfl, Nat.le_of_ble_eq_true rfl⟩ ?_
  rintro _ rfl
  refine gw_eq (ws' := [(pc, .inr (7, [.ref tx, .ref ca, .ref te, .ref hh, .ref hp, .ref qu, .ref sp, .int pl, .int ap])), (hp, .inr (3, [.ref hd, .int nu, .int am, .int ty, .int fa, .int oc, .int fl, .int wi, .int fi, .int fc, .int s2, .int sc, .int co])), (hd, .inr (0, [.ref db, .int dn])), (db, .inl (cA 0, 40, .inl df))]) (lv' := [(0, .ref pc), (1, .int x)]) (st' := [.int (f_PC_orRefused (f_Row_at dn df x))]) (pc' := 14) rfl rfl rfl rfl ?_
  exact gw_iretR S g_r g_k  (by simp only [f_PC_data]) dc_PC_data_14
set_option maxRecDepth 100000 in
set_option maxHeartbeats 4000000 in
theorem c_PC_balance (l : Launch) (D : va_G) (cA : Nat → ClassId) (pc : Nat) (tx : Nat) (ca : Nat) (te : Nat) (hh : Nat) (hp : Nat) (qu : Nat) (sp : Nat) (pl : Int32) (ap : Int32) (h1 : Nat) (h2 : Nat) (h3 : Nat) (b : Nat → Int64) (sd : Int32) (x : Int32)  : ct_R l D cA yn_PC_balance cd_PC_balance 4 [.ref pc, .int x] [(pc, .inr (7, [.ref tx, .ref ca, .ref te, .ref hh, .ref hp, .ref qu, .ref sp, .int pl, .int ap])), (hh, .inr (2, [.ref h1, .ref h2, .ref h3, .int sd])), (h1, .inl (cA 1, 8, .inr (.inl b)))] (fun v_ => v_ = some (.long (f_Host_balanceOf b x))) := by
  refine gw_metR (by decide) rfl (Nat.le_of_ble_eq_true rfl) ?_
  intro p_ e_ s_ m_ args_ below_ meth_ c_ S g_r g_k hK
  refine gw_eq (ws' := [(pc, .inr (7, [.ref tx, .ref ca, .ref te, .ref hh, .ref hp, .ref qu, .ref sp, .int pl, .int ap])), (hh, .inr (2, [.ref h1, .ref h2, .ref h3, .int sd])), (h1, .inl (cA 1, 8, .inr (.inl b)))]) (lv' := [(0, .ref pc), (1, .int x)]) (st' := []) (pc' := 0) rfl rfl rfl rfl ?_
  refine gw_aload_n S dc_PC_balance_0 rfl 0 rfl ?_
  refine gw_get S hK.1 ic_PC rfl 3 (by decide) (gw_lk S mw_248) 0 rfl rfl dc_PC_balance_1 ?_
  refine gw_iload_n S dc_PC_balance_4 rfl 1 rfl ?_
  refine gw_callVR (As := [.int x]) (st := []) S hK (c_Host_balanceOf l D cA hh h1 h2 h3 b sd x ) (cw_PC_184 S.2.2.2.2 rfl rfl ⟨Nat.le_of_ble_eq_true rfl, Nat.le_of_ble_eq_true rfl⟩) [1, 2] rfl (by decide) 0 rfl rfl rfl rfl rfl (Nat.le_of_ble_eq_true rfl) dc_PC_balance_5 ⟨Nat.le_of_ble_eq_true rfl, Nat.le_of_ble_eq_true rfl⟩ ?_
  rintro _ rfl
  refine gw_eq (ws' := [(pc, .inr (7, [.ref tx, .ref ca, .ref te, .ref hh, .ref hp, .ref qu, .ref sp, .int pl, .int ap])), (hh, .inr (2, [.ref h1, .ref h2, .ref h3, .int sd])), (h1, .inl (cA 1, 8, .inr (.inl b)))]) (lv' := [(0, .ref pc), (1, .int x)]) (st' := [.long (f_Host_balanceOf b x)]) (pc' := 8) rfl rfl rfl rfl ?_
  exact gw_lretR S g_r g_k  rfl dc_PC_balance_8
