theorem rw_addlen {n : Int32} {N : Nat} (h : rw_ok n N) : rw_ok (f_Row_add_length n N) N := by
  obtain ⟨k, hk, hN, rfl⟩ := nw_of h
  unfold f_Row_add_length
  by_cases c : nI k < Int32.ofNat N
  · rw [if_pos c, nI_1]
    have h1 : k < N := by
      rcases Nat.lt_or_ge k N with q | q
      · exact q
      · exact absurd c (nI_nlt q (by omega))
    exact rw_nI h1 hN
  · rw [if_neg c]; exact h
/-- one byte of a number -/
def an_b (v lf : Int32) : Int32 := if 4 ≤ lf then 0 else (((v.toUInt32 >>> (Int32.toUInt32 (8 * lf) &&& Int32.toUInt32 31)).toInt32) &&& 255)
/-- a number's bytes to a row's end: length and bytes behind -/
def an_m (v : Int32) : Nat → Int32 → Int32 → (Nat → Int32) → Int32 × (Nat → Int32)
  | 0, _, n, f => (n, f)
  | k + 1, lf, n, f => if lf < 0 then (n, f) else an_m v k (lf + (-1)) (f_Row_add_length n 40) (f_Row_add_1 n 40 f (an_b v lf))
def an_r (v sz n : Int32) (f : Nat → Int32) : Int32 × (Nat → Int32) := an_m v ((sz - 1).toInt + 1).toNat (sz - 1) n f
theorem an_fuel {lf : Int32} (c : ¬ lf < 0) : (lf.toInt + 1).toNat = ((lf + (-1)).toInt + 1).toNat + 1 := by
  obtain ⟨j, hj, rfl⟩ := nI_of c
  rcases j with _ | j
  · rfl
  · rw [pk_m1, nI_toInt hj, nI_toInt (by omega)]; omega
theorem an_exit {v lf n : Int32} {k : Nat} {f : Nat → Int32} (c : lf < 0) : an_m v k lf n f = (n, f) := by
  cases k with
  | zero => rfl
  | succ k => rw [an_m, if_pos c]
theorem an_mok (v : Int32) : ∀ (k : Nat) (lf n : Int32) (f : Nat → Int32), rw_ok n 40 → rw_ok (an_m v k lf n f).1 40
  | 0, _, _, _, h => h
  | k + 1, lf, n, f, h => by
    unfold an_m
    by_cases c : lf < 0
    · rw [if_pos c]; exact h
    · rw [if_neg c]; exact an_mok v k _ _ _ (rw_addlen h)
theorem an_ok {v sz n : Int32} {f : Nat → Int32} (h : rw_ok n 40) : rw_ok (an_r v sz n f).1 40 := an_mok v _ _ _ _ h
set_option maxRecDepth 100000 in
set_option maxHeartbeats 4000000 in
theorem c_Pmt_addNumber (l : Launch) (D : va_G) (cA : Nat → ClassId) (sz : Nat) (hp : Nat) (hd : Nat) (nu : Int32) (am : Int32) (ty : Int32) (fa : Int32) (oc : Int32) (fl : Int32) (wi : Int32) (fi : Int32) (fc : Int32) (s2 : Int32) (sc : Int32) (co : Int32) (db : Nat) (dn : Int32) (df : Nat → Int32) (x : Int32) (y : Int32) (hN : rw_ok dn 40) : ct_M l D cA yn_Pmt_addNumber cd_Pmt_addNumber 2 0 0 sz [.ref hp, .int x, .int y] [(hp, .inr (3, [.ref hd, .int nu, .int am, .int ty, .int fa, .int oc, .int fl, .int wi, .int fi, .int fc, .int s2, .int sc, .int co])), (hd, .inr (0, [.ref db, .int dn])), (db, .inl (cA 0, 40, .inl df))] (fun v_ w_ => v_ = none ∧ w_ = [(hp, .inr (3, [.ref hd, .int nu, .int am, .int ty, .int fa, .int oc, .int fl, .int wi, .int fi, .int fc, .int s2, .int sc, .int co])), (hd, .inr (0, [.ref db, .int ((an_r x y dn df).1)])), (db, .inl (cA 0, 40, .inl ((an_r x y dn df).2)))]) := by
  refine gw_met (by decide) rfl (Nat.le_of_ble_eq_true rfl) ?_
  intro p_ e_ s_ m_ args_ below_ meth_ c_ A_ S g_r g_k g_n hK hA
  refine gw_eq (ws' := [(hp, .inr (3, [.ref hd, .int nu, .int am, .int ty, .int fa, .int oc, .int fl, .int wi, .int fi, .int fc, .int s2, .int sc, .int co])), (hd, .inr (0, [.ref db, .int dn])), (db, .inl (cA 0, 40, .inl df))]) (lv' := [(0, .ref hp), (1, .int x), (2, .int y)]) (st' := []) (pc' := 0) rfl rfl rfl rfl ?_
  refine gw_iload_n S dc_Pmt_addNumber_0 rfl 2 rfl ?_
  refine gw_iconst (v := 1) S dc_Pmt_addNumber_1 (by decide) ?_
  refine gw_isub S dc_Pmt_addNumber_2 ?_
  refine gw_istore_n (lv' := [(3, .int (y - 1)), (0, .ref hp), (1, .int x), (2, .int y)]) S dc_Pmt_addNumber_3 rfl (by decide) rfl ?_
  refine gw_drop [1, 2, 0] (lv' := [(0, .ref hp), (1, .int x), (3, .int (y - 1))]) rfl ?_
  refine gw_loop (σ := Int32 × Int32 × (Nat → Int32)) (fun (x_ : Int32 × Int32 × (Nat → Int32)) => match x_ with | (lf, n9, f9) => (rw_ok n9 40) ∧ (an_r x y dn df = an_m x (lf.toInt + 1).toNat lf n9 f9)) (fun (x_ : Int32 × Int32 × (Nat → Int32)) => match x_ with | (lf, n9, f9) => (lf.toInt + 1).toNat) (fun (x_ : Int32 × Int32 × (Nat → Int32)) => match x_ with | (lf, n9, f9) => [(hp, .inr (3, [.ref hd, .int nu, .int am, .int ty, .int fa, .int oc, .int fl, .int wi, .int fi, .int fc, .int s2, .int sc, .int co])), (hd, .inr (0, [.ref db, .int n9])), (db, .inl (cA 0, 40, .inl f9))]) (fun (x_ : Int32 × Int32 × (Nat → Int32)) => match x_ with | (lf, n9, f9) => [(0, .ref hp), (1, .int x), (3, .int lf)]) ?_ (y - 1, dn, df) ?_ rfl rfl
  rotate_left
  · exact ⟨hN, rfl⟩
  rintro ⟨lf, n9, f9⟩ ⟨hn9, hm9⟩ ih_1
  refine gw_eq (ws' := [(hp, .inr (3, [.ref hd, .int nu, .int am, .int ty, .int fa, .int oc, .int fl, .int wi, .int fi, .int fc, .int s2, .int sc, .int co])), (hd, .inr (0, [.ref db, .int n9])), (db, .inl (cA 0, 40, .inl f9))]) (lv' := [(0, .ref hp), (1, .int x), (3, .int lf)]) (st' := []) (pc' := 4) rfl rfl rfl rfl ?_
  refine gw_iload_n S dc_Pmt_addNumber_4 rfl 2 rfl ?_
  refine gw_if_lt (tgt := 41) S dc_Pmt_addNumber_5 (by decide) (fun c_2 => ?_) (fun c_2 => ?_)
  · -- taken
    exact gw_vret (w := [(hp, .inr (3, [.ref hd, .int nu, .int am, .int ty, .int fa, .int oc, .int fl, .int wi, .int fi, .int fc, .int s2, .int sc, .int co])), (hd, .inr (0, [.ref db, .int n9])), (db, .inl (cA 0, 40, .inl f9))]) S g_r g_k  [0, 1, 2] rfl (by decide) ⟨rfl, by rw [hm9, an_exit c_2]⟩ dc_Pmt_addNumber_41
  · -- not
    refine gw_aload_n S dc_Pmt_addNumber_8 rfl 0 rfl ?_
    refine gw_get S hK.1 ic_Pmt rfl 0 (by decide) (gw_lk S mw_84) 0 rfl rfl dc_Pmt_addNumber_9 ?_
    refine gw_iload_n S dc_Pmt_addNumber_12 rfl 2 rfl ?_
    refine gw_iconst (v := 4) S dc_Pmt_addNumber_13 (by decide) ?_
    refine gw_jw (ws2 := [(hp, .inr (3, [.ref hd, .int nu, .int am, .int ty, .int fa, .int oc, .int fl, .int wi, .int fi, .int fc, .int s2, .int sc, .int co])), (hd, .inr (0, [.ref db, .int n9])), (db, .inl (cA 0, 40, .inl f9))]) (lv2 := [(0, .ref hp), (1, .int x), (3, .int lf)]) (st2 := [.int (if 4 ≤ lf then 0 else (((x.toUInt32 >>> (Int32.toUInt32 (8 * lf) &&& Int32.toUInt32 31)).toInt32) &&& 255)), .ref hd]) (pc2 := 31) ?_ (fun kJ_3 => ?_)
    rotate_left
    · -- join at 31
      refine gw_icmp_ge (tgt := 30) S dc_Pmt_addNumber_14 (by decide) (fun c_4 => ?_) (fun c_4 => ?_)
      · -- taken
        refine gw_iconst (v := 0) S dc_Pmt_addNumber_30 (by decide) ?_
        exact kJ_3 _ _ _ (by simp only [if_pos c_4]) (by simp only [if_pos c_4]) (by simp only [if_pos c_4])
      · -- not
        refine gw_iload_n S dc_Pmt_addNumber_17 rfl 1 rfl ?_
        refine gw_bipush (v := 8) S dc_Pmt_addNumber_18 (by decide) ?_
        refine gw_iload_n S dc_Pmt_addNumber_20 rfl 2 rfl ?_
        refine gw_imul S dc_Pmt_addNumber_21 ?_
        refine gw_iushr S dc_Pmt_addNumber_22 rfl ?_
        refine gw_sipush (v := 255) S dc_Pmt_addNumber_23 (by decide) ?_
        refine gw_iand S dc_Pmt_addNumber_26 ?_
        refine gw_goto (tgt := 31) S dc_Pmt_addNumber_27 (by decide) ?_
        exact kJ_3 _ _ _ (by simp only [if_neg c_4]) (by simp only [if_neg c_4]) (by simp only [if_neg c_4])
    refine gw_callV (As := [.int (if 4 ≤ lf then 0 else (((x.toUInt32 >>> (Int32.toUInt32 (8 * lf) &&& Int32.toUInt32 31)).toInt32) &&& 255))]) (st := []) (wr := [(hp, .inr (3, [.ref hd, .int nu, .int am, .int ty, .int fa, .int oc, .int fl, .int wi, .int fi, .int fc, .int s2, .int sc, .int co]))]) S hK hA (fun sz => c_Row_add l D cA sz hd db n9 40 f9 (if 4 ≤ lf then 0 else (((x.toUInt32 >>> (Int32.toUInt32 (8 * lf) &&& Int32.toUInt32 31)).toInt32) &&& 255)) hn9) (cw_Pmt_209 S.2.2.2.2 rfl rfl ⟨Nat.le_of_ble_eq_true rfl, Nat.le_of_ble_eq_true rfl⟩) [1, 2] [0] rfl (by decide) rfl (by decide) (by decide) 0 rfl rfl rfl rfl rfl (Nat.le_of_ble_eq_true rfl) dc_Pmt_addNumber_31 ⟨Nat.le_of_ble_eq_true rfl, Nat.le_of_ble_eq_true rfl⟩ ?_
    rintro _ _ ⟨rfl, rfl⟩
    refine gw_eq (ws' := [(hp, .inr (3, [.ref hd, .int nu, .int am, .int ty, .int fa, .int oc, .int fl, .int wi, .int fi, .int fc, .int s2, .int sc, .int co])), (hd, .inr (0, [.ref db, .int (f_Row_add_length n9 40)])), (db, .inl (cA 0, 40, .inl (f_Row_add_1 n9 40 f9 (if 4 ≤ lf then 0 else (((x.toUInt32 >>> (Int32.toUInt32 (8 * lf) &&& Int32.toUInt32 31)).toInt32) &&& 255)))))]) (lv' := [(0, .ref hp), (1, .int x), (3, .int lf)]) (st' := [.int (f_Row_add n9 40)]) (pc' := 34) rfl rfl rfl rfl ?_
    refine gw_pop S dc_Pmt_addNumber_34 rfl ?_
    refine gw_iinc (v := lf + (-1)) (lv' := [(3, .int (lf + (-1))), (0, .ref hp), (1, .int x)]) S dc_Pmt_addNumber_35 2 rfl rfl (by decide) rfl ?_
    refine gw_goto (tgt := 4) S dc_Pmt_addNumber_38 (by decide) ?_
    refine gw_drop [1, 2, 0] (lv' := [(0, .ref hp), (1, .int x), (3, .int (lf + (-1)))]) rfl ?_
    refine gw_eq (ws' := [(hp, .inr (3, [.ref hd, .int nu, .int am, .int ty, .int fa, .int oc, .int fl, .int wi, .int fi, .int fc, .int s2, .int sc, .int co])), (hd, .inr (0, [.ref db, .int (f_Row_add_length n9 40)])), (db, .inl (cA 0, 40, .inl (f_Row_add_1 n9 40 f9 (if 4 ≤ lf then 0 else (((x.toUInt32 >>> (Int32.toUInt32 (8 * lf) &&& Int32.toUInt32 31)).toInt32) &&& 255)))))]) (lv' := [(0, .ref hp), (1, .int x), (3, .int (lf + (-1)))]) (st' := []) (pc' := 4) rfl (by simp only [nI_1]) rfl rfl ?_
    exact ih_1 (lf + (-1), f_Row_add_length n9 40, f_Row_add_1 n9 40 f9 (if 4 ≤ lf then 0 else (((x.toUInt32 >>> (Int32.toUInt32 (8 * lf) &&& Int32.toUInt32 31)).toInt32) &&& 255))) ⟨(rw_addlen hn9), (by rw [hm9, an_fuel c_2]; show an_m x _ lf n9 f9 = _; rw [an_m, if_neg c_2]; rfl)⟩ (by show ((lf + (-1)).toInt + 1).toNat < (lf.toInt + 1).toNat; rw [an_fuel c_2]; omega)
